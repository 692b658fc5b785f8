import java.util.ArrayList;
import java.util.List;
import java.util.function.Consumer;
import java.util.function.ToIntFunction;

/** What the project's tests have in common: counted checks, hands made from a text, refused calls. */
final class Checks {
    static final int BAD = -1, STATE = -2, FULL = -3, NONE = -9, NO = -1000000;

    private static int made = 0;
    private static int wrong = 0;

    static void due(String what, long want, long got) {
        made++;
        if (got != want) {
            wrong++;
            System.out.println(what + " answered " + got + ", due is " + want);
        }
    }

    static void typeAll(VelvetHand hand, String text) {
        for (int i = 0; i < text.length(); i++) {
            hand.type(text.charAt(i));
        }
    }

    static VelvetHand told(String text) {
        VelvetHand hand = new VelvetHand();
        typeAll(hand, text);
        int items = hand.embassy();
        if (items < 0) {
            due("embassy() of " + text, 0, items);
        }
        return hand;
    }

    /** Shakes of one caller: 0 for a plain one, 1 for a turned one; the hand is opened wherever it shuts. */
    static int shakeAll(VelvetHand hand, int c, String row) {
        int answer = 0;
        for (int i = 0; i < row.length(); i++) {
            answer = hand.shakes(c, row.charAt(i) - '0');
            if (answer == STATE) {
                hand.opens();
                answer = hand.shakes(c, row.charAt(i) - '0');
            }
        }
        return answer;
    }

    /** The call answers as is due, and what can be seen of the hand is then as if there had been no call. */
    static void changesNothing(String what, String text, Consumer<VelvetHand> steps, long want,
            ToIntFunction<VelvetHand> call) {
        VelvetHand one = told(text);
        VelvetHand other = told(text);
        steps.accept(one);
        steps.accept(other);
        due(what, want, call.applyAsInt(one));
        List<Long> seen = allThatCanBeSeen(one);
        List<Long> due = allThatCanBeSeen(other);
        due(what + ": so many answers", due.size(), seen.size());
        for (int i = 0; i < Math.min(seen.size(), due.size()); i++) {
            due(what + ": then answer " + i, due.get(i), seen.get(i));
        }
    }

    /** Uses the hand up (some 250 calls): all that it tells, then what is behind each undo, each image, its text. */
    static List<Long> allThatCanBeSeen(VelvetHand hand) {
        List<Long> seen = new ArrayList<>();
        int callers = hand.count(0);
        for (int c = 0; c < callers; c++) {
            for (int what = 0; what < 9; what++) {
                seen.add((long) hand.caller(c, what));
            }
        }
        for (int what = 0; what < 6; what++) {
            seen.add((long) hand.count(what));
        }
        seen.add((long) hand.now(6));
        seen.add(hand.trace());
        seen.add((long) hand.soft());
        seen.add((long) hand.ask(1));
        lookAtMoment(hand, callers, seen);
        for (int undone = hand.undo(); undone >= 0; undone = hand.undo()) {
            seen.add((long) undone);
            lookAtMoment(hand, callers, seen);
        }
        for (int image = 0; image < 2; image++) {
            seen.add((long) hand.back(image));
            lookAtMoment(hand, callers, seen);
        }
        seen.add((long) hand.embassy());
        for (int what = 0; what < 6; what++) {
            seen.add((long) hand.count(what));
        }
        lookAtMoment(hand, hand.count(0), seen);
        return seen;
    }

    private static void lookAtMoment(VelvetHand hand, int callers, List<Long> seen) {
        for (int what = 0; what < 5; what++) {
            seen.add((long) hand.now(what));
        }
        for (int c = 0; c < callers; c++) {
            for (int what = 4; what < 8; what++) {
                seen.add((long) hand.caller(c, what));
            }
        }
    }

    static void end() {
        System.out.println(made + " checks, " + wrong + " wrong");
        if (wrong > 0 || made == 0) {
            System.exit(1);
        }
    }
}
