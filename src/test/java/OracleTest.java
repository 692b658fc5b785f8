import java.math.BigInteger;
import java.util.ArrayDeque;
import java.util.ArrayList;
import java.util.Comparator;
import java.util.List;
import java.util.regex.Matcher;
import java.util.regex.Pattern;

/**
 * Long runs of calls, the same each time, each answer compared with a slow second writing of the
 * document: it tries whole rows of shakes and whole sets where the program reckons.
 */
public final class OracleTest {
    private static final int RUNS = 900;
    // The dearest step (a text) and the last look have room behind these: 512 calls are promised.
    private static final int CALLS = 330;
    private static long seed = 20261118;
    private static int calls;

    public static void main(String[] args) {
        for (int run = 0; run < RUNS; run++) {
            run(run);
        }
        Checks.end();
    }

    private static int pick(int bound) {
        seed = seed * 6364136223846793005L + 1442695040888963407L;
        return (int) ((seed >>> 33) % bound);
    }

    private static void run(int run) {
        VelvetHand hand = new VelvetHand();
        Model model = new Model();
        String text = pick(20) == 0 ? "" : goodText();
        Checks.typeAll(hand, text);
        model.text.append(text);
        compare(run, "embassy of " + text, model.embassy(), hand.embassy());
        calls = text.length() + 1;
        for (int steps = 0; calls < CALLS && steps < CALLS; steps++) {
            oneCall(run, hand, model);
        }
        lookAtAll(run, hand, model);
    }

    private static void compare(int run, String call, long want, long got) {
        calls++;
        Checks.due("run " + run + ": " + call, want, got);
    }

    private static void lookAtAll(int run, VelvetHand hand, Model model) {
        for (int what = 0; what < 7; what++) {
            compare(run, "now(" + what + ")", model.now(what), hand.now(what));
        }
        for (int c = 0; c < 6; c++) {
            for (int what = 0; what < 9; what++) {
                compare(run, "caller(" + c + "," + what + ")", model.caller(c, what), hand.caller(c, what));
            }
        }
    }

    private static String goodText() {
        StringBuilder text = new StringBuilder();
        if (pick(4) > 0) text.append("g").append(pick(10)).append(";");
        if (pick(4) > 0) text.append("v").append(pick(10)).append("; ");
        if (pick(4) > 0) text.append("s ").append(1 + pick(pick(2) == 0 ? 6 : 60)).append(";");
        int callers = pick(7);
        for (int c = 0; c < callers; c++) {
            text.append("c").append(1 + pick(30)).append(' ').append(pick(pick(2) == 0 ? 31 : 10)).append(' ');
            text.append(pick(10)).append(' ').append(pick(6)).append(";");
        }
        return text.toString();
    }

    private static String anyText() {
        StringBuilder text = new StringBuilder(goodText());
        for (int i = pick(3); i > 0 && text.length() > 0; i--) {
            int at = pick(text.length());
            switch (pick(3)) {
                case 0 -> text.deleteCharAt(at);
                case 1 -> text.insert(at, " 0c;g9v1s".charAt(pick(9)));
                default -> text.setCharAt(at, "x 0;5cgvs9".charAt(pick(10)));
            }
        }
        return text.toString();
    }

    private static int near(int least, int most) {
        return pick(12) == 0 ? least - 1 + pick(most - least + 3) : least + pick(most - least + 1);
    }

    private static void oneCall(int run, VelvetHand h, Model m) {
        int c = near(0, Math.max(0, m.callers.size() - 1));
        switch (pick(34)) {
            case 0, 1, 2, 3, 4, 5, 6, 7, 8 -> {
                int t = near(0, 1) - (pick(3) == 0 ? 1 : 0);
                compare(run, "shakes(" + c + "," + t + ")", m.shakes(c, t), h.shakes(c, t));
            }
            case 9, 10, 11 -> compare(run, "opens()", m.opens(), h.opens());
            case 12 -> {
                int n = near(0, 9);
                compare(run, "lines(" + n + ")", m.lines(n), h.lines(n));
            }
            case 13 -> compare(run, "winds()", m.winds(), h.winds());
            case 14 -> compare(run, "consoles(" + c + ")", m.consoles(c), h.consoles(c));
            case 15, 16 -> {
                for (int i = pick(4); i >= 0; i--) {
                    compare(run, "undo()", m.undo(), h.undo());
                }
            }
            case 17, 18, 19 -> {
                int k = near(-1, 9);
                compare(run, "way(" + c + "," + k + ")", m.way(c, k), h.way(c, k));
            }
            case 20, 21 -> gainOrTune(run, h, m);
            case 22 -> {
                int x = near(0, 10), k = near(0, 6), what = near(0, 1);
                compare(run, "odds(" + x + "," + k + "," + what + ")", m.odds(x, k, what), h.odds(x, k, what));
            }
            case 23, 24 -> {
                int k = near(1, 9), y = near(0, 1);
                compare(run, "tells(" + c + "," + k + "," + y + ")", m.tells(c, k, y), h.tells(c, k, y));
                compare(run, "soft()", m.soft(), h.soft());
            }
            case 25 -> compare(run, "forget()", m.forget(), h.forget());
            case 26, 27 -> {
                int k = near(1, 9);
                compare(run, "ask(" + k + ")", m.ask(k), h.ask(k));
            }
            case 28 -> {
                int kind = near(0, 5);
                compare(run, "rate(" + kind + "," + c + ")", m.rate(kind, c), h.rate(kind, c));
                compare(run, "trace()", m.trace, h.trace());
            }
            case 29 -> {
                int i = near(0, 1);
                compare(run, "keep(" + i + ")", m.keep(i), h.keep(i));
            }
            case 30 -> {
                int i = near(0, 1);
                compare(run, "back(" + i + ")", m.back(i), h.back(i));
            }
            case 31 -> {
                int what = near(0, 5);
                compare(run, "count(" + what + ")", m.count(what), h.count(what));
            }
            case 32 -> {
                if (pick(8) == 0) {
                    tellText(run, h, m);
                }
            }
            default -> lookAtAll(run, h, m);
        }
    }

    private static void gainOrTune(int run, VelvetHand h, Model m) {
        int n = near(0, 40), what = near(0, 1);
        compare(run, "gain(" + n + "," + what + ")", m.gain(n, what), h.gain(n, what));
        int set = near(0, (1 << m.callers.size()) - 1), k = near(1, 5);
        compare(run, "tune(" + set + "," + k + ")", m.tune(set, k), h.tune(set, k));
    }

    private static void tellText(int run, VelvetHand h, Model m) {
        String text = anyText();
        for (int i = 0; i < text.length(); i++) {
            compare(run, "type(" + (int) text.charAt(i) + ")", m.type(text.charAt(i)), h.type(text.charAt(i)));
        }
        String whole = m.text.toString();
        compare(run, "embassy() of " + whole, m.embassy(), h.embassy());
        if (pick(3) > 0) {
            compare(run, "clear()", m.clear(), h.clear());
        }
    }

    /** One caller as things are with him; a copy is shaken where only thought is asked. */
    private static final class Guest {
        int pride, heart, land, wants, bruised, warm;
        boolean yielded, left;

        Guest copy() {
            Guest g = fresh();
            g.bruised = bruised;
            g.warm = warm;
            g.yielded = yielded;
            g.left = left;
            return g;
        }

        Guest fresh() {
            Guest g = new Guest();
            g.pride = pride;
            g.heart = heart;
            g.land = land;
            g.wants = wants;
            return g;
        }

        int shaken(boolean turned, int grip, int velvet) {
            if (left) return -2;
            if (!turned) bruised += grip;
            warm += turned ? velvet + velvet : velvet;
            if (!(warm < heart) && !(bruised < pride)) {
                yielded = true;
                bruised = 0;
                warm = 0;
                return 1;
            }
            left = bruised - pride > 10;
            return left ? 2 : 0;
        }

        Guest after(int times, int grip, int velvet) {
            Guest g = fresh();
            for (int i = 0; i < times; i++) g.shaken(false, grip, velvet);
            return g;
        }
    }

    /** All that undo and images bring again. */
    private record Scene(List<Guest> guests, int velvet, int shaken, int hurt, int shut) { }

    private static final class Model {
        final StringBuilder text = new StringBuilder();
        int grip = 4, told = 3, spring = 20;
        List<Guest> callers = new ArrayList<>();
        int velvet = 3, shaken = 0, hurt = 0, shut = -9;
        final ArrayDeque<Scene> past = new ArrayDeque<>();
        final Scene[] images = new Scene[2];
        final List<int[]> hearsay = new ArrayList<>();
        long trace = 0;

        int type(int letter) {
            if (letter < 0 || letter > 255) return -1;
            if (text.length() == 120) return -3;
            text.append((char) letter);
            return text.length();
        }

        int clear() {
            int n = text.length();
            text.setLength(0);
            return n;
        }

        /** Reads by patterns: what each token may be is one pattern, item by item. */
        int embassy() {
            int[] hand = {4, 3, 20};
            boolean[] had = new boolean[3];
            List<Guest> guests = new ArrayList<>();
            String rest = text.toString();
            int at = 0, items = 0;
            Matcher token = Pattern.compile(" *([0-9]+|[^0-9 ]|$)").matcher(rest);
            List<String> due = new ArrayList<>();
            List<Integer> numbers = new ArrayList<>();
            String item = "";
            while (token.find(at)) {
                String t = token.group(1);
                int place = token.start(1);
                if (t.isEmpty() && due.isEmpty()) break;
                if (t.isEmpty()) return -10 - rest.length();
                if (due.isEmpty()) {
                    int which = "gvs".indexOf(t);
                    if (t.equals("c") && guests.size() < 6) due.addAll(List.of("1-30", "0-30", "0-9", "0-5", ";"));
                    else if (which >= 0 && !had[which]) due.addAll(List.of(which == 2 ? "1-60" : "0-9", ";"));
                    else return -10 - place;
                    item = t;
                    numbers.clear();
                } else if (!stands(t, due.get(0))) {
                    return -10 - place;
                } else if (due.remove(0).equals(";")) {
                    items++;
                    if (item.equals("c")) guests.add(guest(numbers));
                    else {
                        had["gvs".indexOf(item)] = true;
                        hand["gvs".indexOf(item)] = numbers.get(0);
                    }
                } else {
                    numbers.add(Integer.parseInt(t));
                }
                at = token.end();
            }
            begin(hand, guests);
            return items;
        }

        private static boolean stands(String token, String due) {
            if (due.equals(";")) return token.equals(";");
            if (!token.matches("0|[1-9][0-9]?")) return false;
            String[] range = due.split("-");
            int n = Integer.parseInt(token);
            return n >= Integer.parseInt(range[0]) && n <= Integer.parseInt(range[1]);
        }

        private static Guest guest(List<Integer> numbers) {
            Guest g = new Guest();
            g.pride = numbers.get(0);
            g.heart = numbers.get(1);
            g.land = numbers.get(2);
            g.wants = numbers.get(3);
            return g;
        }

        private void begin(int[] hand, List<Guest> guests) {
            grip = hand[0];
            told = hand[1];
            velvet = told;
            spring = hand[2];
            callers = guests;
            shaken = 0;
            hurt = 0;
            shut = -9;
            past.clear();
            images[0] = null;
            images[1] = null;
            hearsay.clear();
            text.setLength(0);
        }

        boolean none(int c) {
            return c < 0 || c >= callers.size();
        }

        static boolean not(int value, int least, int most) {
            return value < least || value > most;
        }

        int caller(int c, int what) {
            if (none(c)) return -1;
            Guest g = callers.get(c);
            int[] all = {g.pride, g.heart, g.land, g.wants, g.bruised, g.warm, g.yielded ? 1 : 0, g.left ? 1 : 0, ring(c)};
            return not(what, 0, 8) ? -1 : all[what];
        }

        int ring(int c) {
            List<Integer> chain = new ArrayList<>();
            int one = c;
            while (!none(one) && !chain.contains(one)) {
                chain.add(one);
                one = callers.get(one).wants;
            }
            return one == c ? chain.size() : 0;
        }

        int now(int what) {
            int land = 0, traded = 0;
            for (int c = 0; c < callers.size(); c++) {
                land += callers.get(c).yielded ? callers.get(c).land : 0;
                traded += ring(c) > 0 ? 1 << c : 0;
            }
            int[] all = {velvet, shaken, hurt, shut, land, traded, past.size()};
            return not(what, 0, 6) ? -1 : all[what];
        }

        Scene scene() {
            List<Guest> copies = new ArrayList<>();
            for (Guest g : callers) copies.add(g.copy());
            return new Scene(copies, velvet, shaken, hurt, shut);
        }

        void become(Scene s) {
            callers = new ArrayList<>();
            for (Guest g : s.guests) callers.add(g.copy());
            velvet = s.velvet;
            shaken = s.shaken;
            hurt = s.hurt;
            shut = s.shut;
        }

        void remember() {
            past.addLast(scene());
            if (past.size() > 10) past.removeFirst();
        }

        int shakes(int c, int turned) {
            if (none(c) || not(turned, 0, 1)) return -1;
            if (shut != -9 || callers.get(c).left) return -2;
            remember();
            int answer = callers.get(c).shaken(turned == 1, grip, velvet);
            if (turned == 1) hurt = hurt + grip > 999 ? 999 : hurt + grip;
            shaken = (shaken + 1) % spring;
            if (shaken == 0) shut = c;
            return answer;
        }

        int opens() {
            if (shut == -9) return -2;
            remember();
            int who = shut;
            shut = -9;
            return who;
        }

        int lines(int n) {
            if (not(n, 0, 9)) return -1;
            if (velvet == n) return -2;
            remember();
            int before = velvet;
            velvet = n;
            return before;
        }

        int winds() {
            if (shaken == 0) return -2;
            remember();
            int before = shaken;
            shaken = 0;
            return before;
        }

        int consoles(int c) {
            if (none(c)) return -1;
            if (callers.get(c).left || callers.get(c).bruised == 0) return -2;
            remember();
            int before = callers.get(c).bruised;
            callers.get(c).bruised = 0;
            return before;
        }

        int undo() {
            if (past.isEmpty()) return -2;
            become(past.removeLast());
            return past.size();
        }

        String wayOf(Guest guest) {
            for (int length = 1; length <= 10; length++) {
                String found = firstRow(guest, length, "");
                if (found != null) return found;
            }
            return null;
        }

        private String firstRow(Guest guest, int length, String row) {
            if (row.length() == length) {
                Guest g = guest.copy();
                for (int i = 0; i < length; i++) g.shaken(row.charAt(i) == '1', grip, velvet);
                return g.yielded && !g.left ? row : null;
            }
            String found = firstRow(guest, length, row + "0");
            return found != null ? found : firstRow(guest, length, row + "1");
        }

        int way(int c, int k) {
            if (none(c) || not(k, -1, 9)) return -1;
            Guest g = callers.get(c);
            if (g.yielded || g.left) return -2;
            String row = wayOf(g);
            if (row == null || k >= row.length()) return -9;
            return k < 0 ? row.length() : row.charAt(k) - '0';
        }

        int gain(int n, int what) {
            if (not(n, 0, 40) || not(what, 0, 1)) return -1;
            List<int[]> sets = new ArrayList<>();
            sets.add(new int[3]);
            for (int c = 0; c < callers.size(); c++) {
                Guest g = callers.get(c);
                String row = g.yielded || g.left ? null : wayOf(g);
                if (row == null) continue;
                for (int[] s : new ArrayList<>(sets)) {
                    sets.add(new int[] {s[0] + g.land, s[1] + row.length(), s[2] | 1 << c});
                }
            }
            sets.removeIf(s -> s[1] > n);
            Comparator<int[]> most = Comparator.comparingInt((int[] s) -> -s[0]);
            sets.sort(most.thenComparingInt(s -> s[1]).thenComparingInt(s -> s[2]));
            return what == 0 ? sets.get(0)[0] : sets.get(0)[2];
        }

        int tune(int set, int k) {
            if (not(set, 0, (1 << callers.size()) - 1) || not(k, 1, 5)) return -1;
            for (int both = 0; both < 100; both++) {
                int yielded = 0, left = 0;
                for (int c = 0; c < callers.size(); c++) {
                    Guest g = callers.get(c).after(k, both / 10, both % 10);
                    yielded |= g.yielded ? 1 << c : 0;
                    left |= g.left ? 1 << c : 0;
                }
                if (yielded == set && left == 0) return both;
            }
            return -9;
        }

        int odds(int x, int k, int what) {
            if (not(x, 0, 10) || not(k, 0, 6) || not(what, 0, 1)) return -1;
            long[] cases = {1, 0, 0, 0, 0, 0, 0, 0};
            long whole = 1;
            for (Guest g : callers) {
                if (g.left) continue;
                for (int i = 7; i >= 0; i--) cases[i] = cases[i] * (10 - x) + (i > 0 ? cases[i - 1] * x : 0);
                whole *= 10;
            }
            long upper = 0;
            for (int i = 0; i <= k; i++) upper += cases[i];
            long common = BigInteger.valueOf(upper).gcd(BigInteger.valueOf(whole)).longValue();
            return (int) ((what == 0 ? upper : whole) / common);
        }

        int tells(int c, int k, int yielded) {
            if (none(c) || not(k, 1, 9) || not(yielded, 0, 1)) return -1;
            if (hearsay.size() == 6) return -3;
            hearsay.add(new int[] {c, k, yielded});
            return hearsay.size();
        }

        int forget() {
            int n = hearsay.size();
            hearsay.clear();
            return n;
        }

        int soft() {
            int bits = 0;
            for (int v = 0; v < 10; v++) {
                boolean so = true;
                for (int[] t : hearsay) so &= callers.get(t[0]).after(t[1], grip, v).yielded == (t[2] == 1);
                bits += so ? 1 << v : 0;
            }
            return bits;
        }

        int ask(int k) {
            if (not(k, 1, 9)) return -1;
            int bits = soft(), best = -9, bestPart = 99;
            for (int c = 0; c < callers.size() && Integer.bitCount(bits) > 1; c++) {
                int[] parts = new int[2];
                for (int v = 0; v < 10; v++) {
                    if ((bits & 1 << v) != 0) parts[callers.get(c).after(k, grip, v).yielded ? 1 : 0]++;
                }
                int part = Math.max(parts[0], parts[1]);
                if (part < bestPart) {
                    best = c;
                    bestPart = part;
                }
            }
            return best;
        }

        int rate(int kind, int c) {
            if (not(kind, 0, 5) || none(c)) return -1000000;
            Guest g = callers.get(c);
            trace += new int[] {1, 11, 101, 1011, 10101, 100001}[kind];
            int count = g.land + g.warm, charge = g.land - g.bruised;
            return new int[] {g.land, count, charge, count + count, charge + c, g.land + hurt}[kind];
        }

        int yieldedNow() {
            return (int) callers.stream().filter(g -> g.yielded).count();
        }

        int keep(int i) {
            if (not(i, 0, 1)) return -1;
            images[i] = scene();
            return yieldedNow();
        }

        int back(int i) {
            if (not(i, 0, 1)) return -1;
            if (images[i] == null) return -2;
            become(images[i]);
            past.clear();
            return yieldedNow();
        }

        int count(int what) {
            int[] all = {callers.size(), grip, told, spring, hearsay.size(), text.length()};
            return not(what, 0, 5) ? -1 : all[what];
        }
    }
}
