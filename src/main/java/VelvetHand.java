public final class VelvetHand {
    public static final int BAD = -1, STATE = -2, FULL = -3, NONE = -9;
    public static final int NO = -1000000;

    private static final int MOST_CALLERS = 6;
    private static final int MOST_LETTERS = 120;
    private static final int MOST_UNDONE = 10;
    private static final int MOST_TOLD = 6;
    private static final int MOST_HURT = 999;
    private static final int IMAGES = 2;
    private static final int MOST_WAY = 10;
    private static final int MOST_GAIN = 40;
    private static final int STRENGTHS = 10;
    private static final int PATIENCE = 10;
    private static final int OUT_OF_REACH = 1000;
    private static final int NEITHER = 0, YIELDED = 1, LEFT = 2;

    private Setting setting;
    // The text is read into this one, so that a faulty text leaves the setting as it was.
    private Setting spare;
    private final Text text;
    private final Moment moment;
    private final Past past;
    private final Moment[] images;
    private int kept;
    private final Hearsay hearsay;
    private final int[] wayLengths;
    private final int[] fewest;
    private long asked;

    public VelvetHand() {
        setting = new Setting();
        spare = new Setting();
        text = new Text();
        moment = new Moment();
        past = new Past();
        images = new Moment[IMAGES];
        for (int i = 0; i < images.length; i++) {
            images[i] = new Moment();
        }
        hearsay = new Hearsay();
        wayLengths = new int[MOST_CALLERS];
        fewest = new int[(MOST_WAY + 1) * (MOST_WAY + 1)];
        moment.begin(setting.velvet);
    }

    // ---- the embassy

    public int type(int letter) {
        if (letter < 0 || letter > 255) {
            return BAD;
        }
        return text.add(letter) ? text.length : FULL;
    }

    public int clear() {
        return text.empty();
    }

    public int embassy() {
        int items = text.tell(spare);
        if (items < 0) {
            return items;
        }
        Setting told = spare;
        spare = setting;
        setting = told;
        text.empty();
        moment.begin(setting.velvet);
        past.known = 0;
        kept = 0;
        hearsay.size = 0;
        return items;
    }

    public int caller(int c, int what) {
        if (!isCaller(c)) {
            return BAD;
        }
        switch (what) {
            case 0: return at(setting.pride, c);
            case 1: return at(setting.heart, c);
            case 2: return at(setting.land, c);
            case 3: return at(setting.wants, c);
            case 4: return at(moment.bruised, c);
            case 5: return at(moment.warm, c);
            case 6: return isIn(moment.yielded, c) ? 1 : 0;
            case 7: return isIn(moment.left, c) ? 1 : 0;
            case 8: return ringOf(c);
            default: return BAD;
        }
    }

    public int now(int what) {
        switch (what) {
            case 0: return moment.velvet;
            case 1: return moment.shaken;
            case 2: return moment.hurt;
            case 3: return moment.shutOn;
            case 4: return landOf(moment.yielded);
            case 5: return traded();
            case 6: return past.known;
            default: return BAD;
        }
    }

    private boolean isCaller(int c) {
        return c >= 0 && c < setting.callers;
    }

    private int landOf(int set) {
        int land = 0;
        for (int c = 0; c < setting.callers; c++) {
            if (isIn(set, c)) {
                land += at(setting.land, c);
            }
        }
        return land;
    }

    private int ringOf(int c) {
        int one = c;
        for (int size = 1; size <= MOST_CALLERS; size++) {
            one = at(setting.wants, one);
            if (!isCaller(one)) {
                return 0;
            }
            if (one == c) {
                return size;
            }
        }
        return 0;
    }

    private int traded() {
        int set = 0;
        for (int c = 0; c < setting.callers; c++) {
            if (ringOf(c) > 0) {
                set |= 1 << c;
            }
        }
        return set;
    }

    // ---- what is done

    public int shakes(int c, int turned) {
        if (!isCaller(c) || !isOneOrZero(turned)) {
            return BAD;
        }
        if (moment.shutOn != NONE || isIn(moment.left, c)) {
            return STATE;
        }
        past.remember(moment);
        if (turned == 1) {
            moment.hurt = Math.min(MOST_HURT, moment.hurt + setting.grip);
        }
        put(moment.bruised, c, at(moment.bruised, c) + bruise(turned));
        put(moment.warm, c, at(moment.warm, c) + warmth(turned));
        int answer = decide(c);
        countShake(c);
        return answer;
    }

    public int opens() {
        int who = moment.shutOn;
        if (who == NONE) {
            return STATE;
        }
        past.remember(moment);
        moment.shutOn = NONE;
        return who;
    }

    public int lines(int n) {
        if (n < 0 || n >= STRENGTHS) {
            return BAD;
        }
        int before = moment.velvet;
        if (before == n) {
            return STATE;
        }
        past.remember(moment);
        moment.velvet = n;
        return before;
    }

    public int winds() {
        int before = moment.shaken;
        if (before == 0) {
            return STATE;
        }
        past.remember(moment);
        moment.shaken = 0;
        return before;
    }

    public int consoles(int c) {
        if (!isCaller(c)) {
            return BAD;
        }
        int before = at(moment.bruised, c);
        if (before == 0 || isIn(moment.left, c)) {
            return STATE;
        }
        past.remember(moment);
        put(moment.bruised, c, 0);
        return before;
    }

    public int undo() {
        if (past.known == 0) {
            return STATE;
        }
        past.recall(moment);
        return past.known;
    }

    private int bruise(int turned) {
        return turned == 1 ? 0 : setting.grip;
    }

    private int warmth(int turned) {
        return turned == 1 ? 2 * moment.velvet : moment.velvet;
    }

    private int decide(int c) {
        int bruised = at(moment.bruised, c);
        if (wouldYield(c, bruised, at(moment.warm, c))) {
            moment.yielded |= 1 << c;
            put(moment.bruised, c, 0);
            put(moment.warm, c, 0);
            return 1;
        }
        if (wouldLeave(c, bruised)) {
            moment.left |= 1 << c;
            return 2;
        }
        return 0;
    }

    private void countShake(int c) {
        moment.shaken++;
        if (moment.shaken == setting.spring) {
            moment.shutOn = c;
            moment.shaken = 0;
        }
    }

    private boolean wouldYield(int c, int bruised, int warm) {
        return warm >= at(setting.heart, c) && bruised >= at(setting.pride, c);
    }

    // Only one who does not yield may leave: ask wouldYield first.
    private boolean wouldLeave(int c, int bruised) {
        return bruised > at(setting.pride, c) + PATIENCE;
    }

    // ---- how to have land

    public int way(int c, int k) {
        if (!isCaller(c) || k < -1 || k >= MOST_WAY) {
            return BAD;
        }
        if (!mayBeWon(c)) {
            return STATE;
        }
        int length = reckonWay(c);
        if (length == OUT_OF_REACH || k >= length) {
            return NONE;
        }
        return k == -1 ? length : turnOfWay(k);
    }

    public int gain(int n, int what) {
        if (n < 0 || n > MOST_GAIN || !isOneOrZero(what)) {
            return BAD;
        }
        measureWays();
        int best = 0;
        int bestLand = 0;
        int bestLength = 0;
        for (int set = 1; set < 1 << setting.callers; set++) {
            int length = lengthOfWays(set);
            int land = landOf(set);
            boolean better = land > bestLand || land == bestLand && length < bestLength;
            if (length <= n && better) {
                best = set;
                bestLand = land;
                bestLength = length;
            }
        }
        return what == 0 ? bestLand : best;
    }

    public int tune(int set, int k) {
        if (set < 0 || set >= 1 << setting.callers || k < 1 || k > 5) {
            return BAD;
        }
        for (int grip = 0; grip < STRENGTHS; grip++) {
            for (int velvet = 0; velvet < STRENGTHS; velvet++) {
                if (bringsJust(set, k, grip, velvet)) {
                    return 10 * grip + velvet;
                }
            }
        }
        return NONE;
    }

    public int odds(int x, int k, int what) {
        if (x < 0 || x > 10 || k < 0 || k > 6 || !isOneOrZero(what)) {
            return BAD;
        }
        int here = setting.callers - Integer.bitCount(moment.left);
        int upper = waysToLeave(here, x, k);
        int lower = power(10, here);
        int common = commonDivisor(lower, upper);
        if (common == 0) {
            return NONE;
        }
        return what == 0 ? upper / common : lower / common;
    }

    private boolean mayBeWon(int c) {
        return !isIn(moment.yielded | moment.left, c);
    }

    // How bruised and warm he is behind some shakes depends on how many of them were plain, not
    // on their order: so a few cells (shakes done, plain ones of these) hold all rows of shakes.
    private int reckonWay(int c) {
        for (int done = MOST_WAY; done >= 0; done--) {
            for (int plain = 0; plain <= done; plain++) {
                put(fewest, cell(done, plain), fewestBehind(c, done, plain));
            }
        }
        return at(fewest, cell(0, 0));
    }

    private static int cell(int done, int plain) {
        return done * (MOST_WAY + 1) + plain;
    }

    private int fewestBehind(int c, int done, int plain) {
        int turned = done - plain;
        int bruised = at(moment.bruised, c) + plain * bruise(0);
        int warm = at(moment.warm, c) + plain * warmth(0) + turned * warmth(1);
        // He decides only when he is shaken.
        if (done > 0 && wouldYield(c, bruised, warm)) {
            return 0;
        }
        if (done == MOST_WAY || done > 0 && wouldLeave(c, bruised)) {
            return OUT_OF_REACH;
        }
        return Math.min(OUT_OF_REACH, 1 + Math.min(fewestNext(done, plain, 0), fewestNext(done, plain, 1)));
    }

    private int fewestNext(int done, int plain, int turned) {
        return at(fewest, cell(done + 1, plain + 1 - turned));
    }

    // Follows the way that was reckoned last; the plain shake is taken wherever it is as short.
    private int turnOfWay(int k) {
        int plain = 0;
        int turned = 0;
        for (int done = 0; done <= k; done++) {
            turned = fewestNext(done, plain, 0) <= fewestNext(done, plain, 1) ? 0 : 1;
            plain += 1 - turned;
        }
        return turned;
    }

    private void measureWays() {
        for (int c = 0; c < setting.callers; c++) {
            put(wayLengths, c, mayBeWon(c) ? reckonWay(c) : OUT_OF_REACH);
        }
    }

    private int lengthOfWays(int set) {
        int length = 0;
        for (int c = 0; c < setting.callers; c++) {
            if (isIn(set, c)) {
                length += at(wayLengths, c);
            }
        }
        return length;
    }

    private boolean bringsJust(int set, int k, int grip, int velvet) {
        for (int c = 0; c < setting.callers; c++) {
            int due = isIn(set, c) ? YIELDED : NEITHER;
            if (tryPlain(c, k, grip, velvet) != due) {
                return false;
            }
        }
        return true;
    }

    // What comes first of k plain shakes of one who was not shaken before: YIELDED, LEFT, or neither.
    // One who yields is then as at first, and yields by as many again: he can't leave behind that.
    private int tryPlain(int c, int k, int grip, int velvet) {
        for (int shakes = 1; shakes <= k; shakes++) {
            if (wouldYield(c, shakes * grip, shakes * velvet)) {
                return YIELDED;
            }
            if (wouldLeave(c, shakes * grip)) {
                return LEFT;
            }
        }
        return NEITHER;
    }

    // Of the 10 to the power of here equal cases, those in which k at most leave.
    private static int waysToLeave(int here, int x, int k) {
        int cases = 0;
        for (int set = 0; set < 1 << here; set++) {
            int leaving = Integer.bitCount(set);
            if (leaving <= k) {
                cases += power(x, leaving) * power(10 - x, here - leaving);
            }
        }
        return cases;
    }

    private static int power(int base, int exponent) {
        int product = 1;
        for (int i = 0; i < exponent; i++) {
            product *= base;
        }
        return product;
    }

    private static int commonDivisor(int a, int b) {
        int larger = a;
        int smaller = b;
        for (int i = 0; i < 1000000 && smaller != 0; i++) {
            int rest = larger % smaller;
            larger = smaller;
            smaller = rest;
        }
        return larger;
    }

    // ---- what is within

    public int tells(int c, int k, int yielded) {
        if (!isCaller(c) || k < 1 || k > 9 || !isOneOrZero(yielded)) {
            return BAD;
        }
        return hearsay.add(c, k, yielded) ? hearsay.size : FULL;
    }

    public int forget() {
        int size = hearsay.size;
        hearsay.size = 0;
        return size;
    }

    public int soft() {
        int all = (1 << STRENGTHS) - 1;
        int velvets = all;
        for (int i = 0; i < hearsay.size; i++) {
            int yielding = yieldingVelvets(at(hearsay.who, i), at(hearsay.times, i));
            velvets &= at(hearsay.yielded, i) == 1 ? yielding : all - yielding;
        }
        return velvets;
    }

    public int ask(int k) {
        if (k < 1 || k > 9) {
            return BAD;
        }
        int velvets = soft();
        int all = Integer.bitCount(velvets);
        if (all <= 1) {
            return NONE;
        }
        int best = NONE;
        int bestPart = all + 1;
        for (int c = 0; c < setting.callers; c++) {
            int yielding = Integer.bitCount(velvets & yieldingVelvets(c, k));
            int part = Math.max(yielding, all - yielding);
            if (part < bestPart) {
                best = c;
                bestPart = part;
            }
        }
        return best;
    }

    private int yieldingVelvets(int c, int k) {
        int velvets = 0;
        for (int velvet = 0; velvet < STRENGTHS; velvet++) {
            if (tryPlain(c, k, setting.grip, velvet) == YIELDED) {
                velvets |= 1 << velvet;
            }
        }
        return velvets;
    }

    // ---- kinds, images

    public int rate(int kind, int c) {
        if (!isCaller(c)) {
            return NO;
        }
        switch (kind) {
            case 0: return rateCaller(c);
            case 1: return rateCount(c);
            case 2: return rateCharge(c);
            case 3: return rateNuncio(c);
            case 4: return rateEnvoy(c);
            case 5: return rateNun(c);
            default: return NO;
        }
    }

    public int keep(int image) {
        Moment row = momentAt(images, image);
        if (row == null) {
            return BAD;
        }
        row.become(moment);
        kept |= 1 << image;
        return Integer.bitCount(moment.yielded);
    }

    public int back(int image) {
        Moment row = momentAt(images, image);
        if (row == null) {
            return BAD;
        }
        if (!isIn(kept, image)) {
            return STATE;
        }
        moment.become(row);
        past.known = 0;
        return Integer.bitCount(moment.yielded);
    }

    public int count(int what) {
        switch (what) {
            case 0: return setting.callers;
            case 1: return setting.grip;
            case 2: return setting.velvet;
            case 3: return setting.spring;
            case 4: return hearsay.size;
            case 5: return text.length;
            default: return BAD;
        }
    }

    public long trace() {
        return asked;
    }

    private int rateCaller(int c) {
        asked += 1;
        return at(setting.land, c);
    }

    private int rateCount(int c) {
        asked += 10;
        return rateCaller(c) + at(moment.warm, c);
    }

    private int rateCharge(int c) {
        asked += 100;
        return rateCaller(c) - at(moment.bruised, c);
    }

    private int rateNuncio(int c) {
        asked += 1000;
        return 2 * rateCount(c);
    }

    private int rateEnvoy(int c) {
        asked += 10000;
        return rateCharge(c) + c;
    }

    private int rateNun(int c) {
        asked += 100000;
        return rateCaller(c) + moment.hurt;
    }

    // ---- rows and bits: no row is touched but through these, so that no index is untested

    private static int at(int[] row, int i) {
        return i >= 0 && i < row.length ? row[i] : 0;
    }

    private static void put(int[] row, int i, int value) {
        if (i >= 0 && i < row.length) {
            row[i] = value;
        }
    }

    private static Moment momentAt(Moment[] row, int i) {
        return i >= 0 && i < row.length ? row[i] : null;
    }

    private static boolean isIn(int set, int i) {
        return (set >> i & 1) == 1;
    }

    private static boolean isOneOrZero(int value) {
        return value == 0 || value == 1;
    }

    /** What a text tells: the hand as it was made, and the callers. */
    private static final class Setting {
        int grip = 4;
        int velvet = 3;
        int spring = 20;
        int callers;
        final int[] pride = new int[MOST_CALLERS];
        final int[] heart = new int[MOST_CALLERS];
        final int[] land = new int[MOST_CALLERS];
        final int[] wants = new int[MOST_CALLERS];

        void begin() {
            grip = 4;
            velvet = 3;
            spring = 20;
            callers = 0;
        }

        // Of the last caller, in the order of the text.
        void tellCaller(int which, int number) {
            switch (which) {
                case 0: put(pride, callers - 1, number); break;
                case 1: put(heart, callers - 1, number); break;
                case 2: put(land, callers - 1, number); break;
                default: put(wants, callers - 1, number); break;
            }
        }
    }

    /** All that shakes change, and that undo and images bring again. */
    private static final class Moment {
        final int[] bruised = new int[MOST_CALLERS];
        final int[] warm = new int[MOST_CALLERS];
        int yielded;
        int left;
        int shaken;
        int hurt;
        int velvet;
        int shutOn = NONE;

        void begin(int toldVelvet) {
            for (int c = 0; c < MOST_CALLERS; c++) {
                put(bruised, c, 0);
                put(warm, c, 0);
            }
            yielded = 0;
            left = 0;
            shaken = 0;
            hurt = 0;
            velvet = toldVelvet;
            shutOn = NONE;
        }

        void become(Moment other) {
            for (int c = 0; c < MOST_CALLERS; c++) {
                put(bruised, c, at(other.bruised, c));
                put(warm, c, at(other.warm, c));
            }
            yielded = other.yielded;
            left = other.left;
            shaken = other.shaken;
            hurt = other.hurt;
            velvet = other.velvet;
            shutOn = other.shutOn;
        }
    }

    /** The moments ahead of the latest changes, in a ring that overwrites the oldest. */
    private static final class Past {
        private final Moment[] rows = new Moment[MOST_UNDONE];
        private int next;
        int known;

        Past() {
            for (int i = 0; i < rows.length; i++) {
                rows[i] = new Moment();
            }
        }

        void remember(Moment moment) {
            Moment row = momentAt(rows, next);
            if (row != null) {
                row.become(moment);
                next = (next + 1) % MOST_UNDONE;
                known = Math.min(MOST_UNDONE, known + 1);
            }
        }

        void recall(Moment moment) {
            int latest = (next + MOST_UNDONE - 1) % MOST_UNDONE;
            Moment row = momentAt(rows, latest);
            if (known > 0 && row != null) {
                moment.become(row);
                next = latest;
                known--;
            }
        }
    }

    /** What was told of an unknown velvet. */
    private static final class Hearsay {
        final int[] who = new int[MOST_TOLD];
        final int[] times = new int[MOST_TOLD];
        final int[] yielded = new int[MOST_TOLD];
        int size;

        boolean add(int c, int k, int hasYielded) {
            if (size >= MOST_TOLD) {
                return false;
            }
            put(who, size, c);
            put(times, size, k);
            put(yielded, size, hasYielded);
            size++;
            return true;
        }
    }

    /** The text, and how it is read: token by token, each looked at where it stands. */
    private static final class Text {
        // Beyond all letters, so that a token is a letter or one of these.
        private static final int END = 256, NUMBER = 257, NO_TOKEN = 258;
        private static final int NO_ITEM = 0;

        private final int[] letters = new int[MOST_LETTERS];
        int length;
        private int place;
        private int token;
        private int tokenPlace;
        private int number;
        // The letter of the item that is being told, and how many of its numbers were.
        private int item;
        private int numbers;
        private boolean gripTold;
        private boolean velvetTold;
        private boolean springTold;

        boolean add(int letter) {
            if (length >= MOST_LETTERS) {
                return false;
            }
            put(letters, length, letter);
            length++;
            return true;
        }

        int empty() {
            int had = length;
            length = 0;
            return had;
        }

        // How many items, or -10 less the place of the fault.
        int tell(Setting setting) {
            begin();
            setting.begin();
            int items = 0;
            readToken();
            for (int read = 0; read < MOST_LETTERS && token != END; read++) {
                if (!takeToken(setting)) {
                    return -10 - tokenPlace;
                }
                if (token == ';') {
                    items++;
                }
                readToken();
            }
            return item == NO_ITEM ? items : -10 - tokenPlace;
        }

        private void begin() {
            place = 0;
            item = NO_ITEM;
            gripTold = false;
            velvetTold = false;
            springTold = false;
        }

        // Where this answers false, the token at hand is the one that can't stand there.
        private boolean takeToken(Setting setting) {
            if (item == NO_ITEM) {
                return takeLetter(setting);
            }
            if (numbers < (item == 'c' ? 4 : 1)) {
                return takeNumber(setting);
            }
            item = NO_ITEM;
            return token == ';';
        }

        private boolean takeLetter(Setting setting) {
            boolean again;
            switch (token) {
                case 'c':
                    again = setting.callers >= MOST_CALLERS;
                    setting.callers += again ? 0 : 1;
                    break;
                case 'g':
                    again = gripTold;
                    gripTold = true;
                    break;
                case 'v':
                    again = velvetTold;
                    velvetTold = true;
                    break;
                case 's':
                    again = springTold;
                    springTold = true;
                    break;
                default:
                    return false;
            }
            item = token;
            numbers = 0;
            return !again;
        }

        private boolean takeNumber(Setting setting) {
            if (token != NUMBER || number < leastNumber() || number > mostNumber()) {
                return false;
            }
            switch (item) {
                case 'g': setting.grip = number; break;
                case 'v': setting.velvet = number; break;
                case 's': setting.spring = number; break;
                default: setting.tellCaller(numbers, number); break;
            }
            numbers++;
            return true;
        }

        private int leastNumber() {
            boolean isPride = item == 'c' && numbers == 0;
            return isPride || item == 's' ? 1 : 0;
        }

        private int mostNumber() {
            if (item != 'c') {
                return item == 's' ? 60 : 9;
            }
            switch (numbers) {
                case 0: return 30;
                case 1: return 30;
                case 2: return 9;
                default: return 5;
            }
        }

        private void readToken() {
            while (place < length && at(letters, place) == ' ') {
                place++;
            }
            tokenPlace = place;
            if (place >= length) {
                token = END;
                return;
            }
            token = at(letters, place);
            if (isDigit(token)) {
                readNumber();
            } else {
                place++;
            }
        }

        private void readNumber() {
            boolean zeroAhead = at(letters, place) == '0';
            number = 0;
            while (place < length && isDigit(at(letters, place))) {
                // Held at 100, which is too much already: many digits must not run over.
                number = Math.min(100, 10 * number + at(letters, place) - '0');
                place++;
            }
            boolean several = place - tokenPlace > 1;
            token = number > 99 || zeroAhead && several ? NO_TOKEN : NUMBER;
        }

        private static boolean isDigit(int letter) {
            return letter >= '0' && letter <= '9';
        }
    }
}
