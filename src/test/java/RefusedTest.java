import java.util.function.Consumer;
import java.util.function.ToIntFunction;

/** Each refusal, in hands that are empty, full, shut: it answers what is due, the first of BAD, STATE, FULL; nothing changes. */
public final class RefusedTest {
    private static final int BAD = Checks.BAD, STATE = Checks.STATE, FULL = Checks.FULL, NO = Checks.NO;
    private static final int LEAST = Integer.MIN_VALUE, MOST = Integer.MAX_VALUE;

    private static String state;
    private static String text;
    private static Consumer<VelvetHand> steps;

    public static void main(String[] args) {
        inANewHand();
        inAFullHand();
        inAShutHand();
        inAHandThatWasUndoneToItsEnd();
        inAHandThatWasBrought();
        Checks.end();
    }

    private static void in(String newState, String newText, Consumer<VelvetHand> newSteps) {
        state = newState;
        text = newText;
        steps = newSteps;
    }

    private static void refused(int want, String call, ToIntFunction<VelvetHand> made) {
        Checks.changesNothing(state + ": " + call, text, steps, want, made);
    }

    private static void inANewHand() {
        in("new", "", hand -> { });
        badIn(0);
        refused(STATE, "opens", hand -> hand.opens());
        refused(STATE, "lines, it is so", hand -> hand.lines(3));
        refused(STATE, "winds", hand -> hand.winds());
        refused(STATE, "undo", hand -> hand.undo());
        refused(STATE, "back first", hand -> hand.back(0));
        refused(STATE, "back last", hand -> hand.back(1));
        in("new, a letter typed", "", hand -> hand.type('x'));
        refused(-10, "embassy", hand -> hand.embassy());
    }

    private static void inAFullHand() {
        in("full", "g9;v3;s9;c9 3 4 0;c1 30 2 0;c30 30 1 3;", hand -> {
            hand.shakes(2, 1);
            hand.keep(0);
            hand.shakes(0, 0);
            Checks.shakeAll(hand, 1, "00");
            hand.keep(1);
            for (int i = 0; i < 9; i++) {
                hand.lines(4 + i % 2);
                hand.tells(i % 3, 1 + i, i % 2);
            }
            hand.shakes(2, 1);
            hand.rate(4, 2);
            Checks.typeAll(hand, "g5;v5;s5;" + " ".repeat(108) + "g1;");
        });
        badIn(3);
        refused(FULL, "type", hand -> hand.type('g'));
        refused(FULL, "type least", hand -> hand.type(0));
        refused(FULL, "type most", hand -> hand.type(255));
        refused(FULL, "tells", hand -> hand.tells(0, 1, 1));
        refused(FULL, "tells most", hand -> hand.tells(2, 9, 0));
        refused(-10 - 117, "embassy", hand -> hand.embassy());
        refused(STATE, "shakes of one who LEFT", hand -> hand.shakes(1, 0));
        refused(STATE, "shakes turned of one who LEFT", hand -> hand.shakes(1, 1));
        refused(STATE, "opens", hand -> hand.opens());
        refused(STATE, "lines, it is so", hand -> hand.lines(4));
        refused(STATE, "consoles of one who LEFT", hand -> hand.consoles(1));
        refused(STATE, "consoles of one who YIELDED", hand -> hand.consoles(0));
        refused(STATE, "consoles of one only WARM", hand -> hand.consoles(2));
        refused(STATE, "way of one who YIELDED", hand -> hand.way(0, -1));
        refused(STATE, "way of one who LEFT", hand -> hand.way(1, 9));
        refused(BAD, "way of one who YIELDED, BAD ahead", hand -> hand.way(0, 10));
        refused(BAD, "way of one who LEFT, BAD ahead", hand -> hand.way(1, -2));
        refused(BAD, "shakes of one who LEFT, BAD ahead", hand -> hand.shakes(1, -1));
    }

    private static void inAShutHand() {
        in("shut", "g9;v3;s2;c9 9 4 0;c30 30 2 0;", hand -> {
            hand.tells(0, 9, 1);
            hand.shakes(1, 1);
            hand.keep(1);
            hand.shakes(0, 0);
            Checks.typeAll(hand, "v9;");
        });
        badIn(2);
        for (int c = 0; c < 2; c++) {
            int he = c;
            refused(STATE, "shakes " + c, hand -> hand.shakes(he, 0));
            refused(STATE, "shakes turned " + c, hand -> hand.shakes(he, 1));
        }
        refused(STATE, "winds", hand -> hand.winds());
        refused(STATE, "lines, it is so", hand -> hand.lines(3));
        refused(STATE, "consoles of one only WARM", hand -> hand.consoles(1));
        refused(STATE, "back, none was kept", hand -> hand.back(0));
    }

    private static void inAHandThatWasUndoneToItsEnd() {
        in("undone", "g9;v3;s2;c9 9 4 0;c30 30 2 0;", hand -> {
            for (int i = 0; i < 15; i++) {
                hand.lines(i % 2);
            }
            for (int i = 0; i < 10; i++) {
                hand.undo();
            }
        });
        badIn(2);
        refused(STATE, "undo", hand -> hand.undo());
        refused(STATE, "lines, it is so", hand -> hand.lines(0));
        refused(STATE, "opens", hand -> hand.opens());
        refused(STATE, "winds", hand -> hand.winds());
        refused(STATE, "consoles", hand -> hand.consoles(0));
    }

    private static void inAHandThatWasBrought() {
        in("brought", "g9;v3;s2;c9 9 4 0;c30 30 2 0;", hand -> {
            hand.shakes(0, 0);
            hand.shakes(1, 1);
            hand.keep(0);
            hand.opens();
            hand.lines(9);
            hand.back(0);
        });
        badIn(2);
        refused(STATE, "shakes", hand -> hand.shakes(0, 0));
        refused(STATE, "undo", hand -> hand.undo());
        refused(STATE, "lines, it is so", hand -> hand.lines(3));
        refused(STATE, "winds", hand -> hand.winds());
        refused(STATE, "consoles", hand -> hand.consoles(1));
        refused(STATE, "back, none was kept", hand -> hand.back(1));
    }

    /** All that is BAD whatever the hand: the nearest and the farthest beyond both ends, of each number. */
    private static void badIn(int callers) {
        beyond("type", 0, 255, (hand, n) -> hand.type(n));
        beyond("caller, c", 0, callers - 1, (hand, n) -> hand.caller(n, 0));
        beyond("caller, what", 0, 8, (hand, n) -> hand.caller(0, n));
        beyond("now", 0, 6, (hand, n) -> hand.now(n));
        beyond("shakes, c", 0, callers - 1, (hand, n) -> hand.shakes(n, 0));
        beyond("shakes, turned", 0, 1, (hand, n) -> hand.shakes(0, n));
        beyond("lines", 0, 9, (hand, n) -> hand.lines(n));
        beyond("consoles", 0, callers - 1, (hand, n) -> hand.consoles(n));
        beyond("way, c", 0, callers - 1, (hand, n) -> hand.way(n, -1));
        beyond("way, k", -1, 9, (hand, n) -> hand.way(0, n));
        beyond("gain, n", 0, 40, (hand, n) -> hand.gain(n, 0));
        beyond("gain, what", 0, 1, (hand, n) -> hand.gain(0, n));
        beyond("tune, set", 0, (1 << callers) - 1, (hand, n) -> hand.tune(n, 1));
        beyond("tune, k", 1, 5, (hand, n) -> hand.tune(0, n));
        beyond("odds, x", 0, 10, (hand, n) -> hand.odds(n, 0, 0));
        beyond("odds, k", 0, 6, (hand, n) -> hand.odds(0, n, 0));
        beyond("odds, what", 0, 1, (hand, n) -> hand.odds(0, 0, n));
        beyond("tells, c", 0, callers - 1, (hand, n) -> hand.tells(n, 1, 1));
        beyond("tells, k", 1, 9, (hand, n) -> hand.tells(0, n, 1));
        beyond("tells, yielded", 0, 1, (hand, n) -> hand.tells(0, 1, n));
        beyond("ask", 1, 9, (hand, n) -> hand.ask(n));
        beyond("keep", 0, 1, (hand, n) -> hand.keep(n));
        beyond("back", 0, 1, (hand, n) -> hand.back(n));
        beyond("count", 0, 5, (hand, n) -> hand.count(n));
        // Answers what is BAD there as BAD, so that the same may be asked of it.
        beyond("rate, kind", 0, 5, (hand, n) -> hand.rate(n, 0) == NO ? BAD : 0);
        beyond("rate, c", 0, callers - 1, (hand, n) -> hand.rate(0, n) == NO ? BAD : 0);
    }

    private interface OfNumber {
        int call(VelvetHand hand, int number);
    }

    private static void beyond(String call, int least, int most, OfNumber made) {
        int[] numbers = {least - 1, most + 1, least - 256, most + 256, LEAST, MOST};
        for (int n : numbers) {
            refused(BAD, call + " " + n, hand -> made.call(hand, n));
        }
    }
}
