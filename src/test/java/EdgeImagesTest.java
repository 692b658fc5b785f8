/** Each edge that the document names of kinds and images: Terms 4, promises 21 to 25. */
public final class EdgeImagesTest {
    private static final int NONE = Checks.NONE, STATE = Checks.STATE, BAD = Checks.BAD, NO = Checks.NO;

    public static void main(String[] args) {
        rateOfEachKind();
        rateBelowNone();
        rateAtItsMost();
        rateRefused();
        rateOfWhoYieldedOrLeft();
        traceOfEachKind();
        traceGoesOn();
        keptFirstAndLast();
        keptNone();
        keptOverAgain();
        keptIsACopy();
        backBringsAll();
        backBringsNothingElse();
        nothingIsUndoneBehindBack();
        keepIsNoAct();
        bothImagesForThemselves();
        imagesAreGoneBehindEmbassy();
        imagesStayBehindAFault();
        countFromFirstToLast();
        Checks.end();
    }

    private static void due(String what, long want, long got) {
        Checks.due(what, want, got);
    }

    private static VelvetHand told(String text) {
        return Checks.told(text);
    }

    private static void rateOfEachKind() {
        for (int c = 0; c < 6; c++) {
            VelvetHand hand = told("g4;v3;s60;" + "c30 30 7 0;".repeat(6));
            Checks.shakeAll(hand, c, "0011");
            int[] rates = {7, 25, -1, 50, c - 1, 15};
            for (int kind = 0; kind < 6; kind++) {
                due("kind " + kind + " of " + c, rates[kind], hand.rate(kind, c));
            }
            int other = (c + 1) % 6;
            int[] others = {7, 7, 7, 14, 7 + other, 15};
            for (int kind = 0; kind < 6; kind++) {
                due("kind " + kind + " of one not SHAKEN", others[kind], hand.rate(kind, other));
            }
        }
    }

    private static void rateBelowNone() {
        VelvetHand hand = told("g9;v0;s60;c30 1 0 0;c30 1 0 0;");
        due("CHARGE of no LAND", 0, hand.rate(2, 0));
        Checks.shakeAll(hand, 0, "0000");
        due("CHARGE below 0", -36, hand.rate(2, 0));
        due("ENVOY below 0", -36, hand.rate(4, 0));
        due("ENVOY, his number", 1, hand.rate(4, 1));
        Checks.shakeAll(hand, 1, "0");
        due("CHARGE just as BAD elsewhere is no refusal", -9, hand.rate(2, 1));
        due("ENVOY below 0, and his number", -8, hand.rate(4, 1));
    }

    private static void rateAtItsMost() {
        VelvetHand hand = told("g9;v9;s60;" + "c30 30 9 0;".repeat(6));
        due("CALLER", 9, hand.rate(0, 5));
        due("ENVOY", 14, hand.rate(4, 5));
        Checks.shakeAll(hand, 5, "1".repeat(112));
        due("COUNT", 9 + 112 * 18, hand.rate(1, 5));
        due("NUNCIO", 2 * (9 + 112 * 18), hand.rate(3, 5));
        due("NUN", 1008, hand.rate(5, 5));
        due("NUN of another", 1008, hand.rate(5, 0));
    }

    private static void rateRefused() {
        VelvetHand hand = told("c1 0 3 0;c1 0 4 0;");
        int[][] wrong = {{-1, 0}, {6, 0}, {0, -1}, {0, 2}, {5, 2}, {6, 2}, {-1, -1},
            {Integer.MIN_VALUE, 0}, {Integer.MAX_VALUE, 0}, {0, Integer.MIN_VALUE}, {0, Integer.MAX_VALUE}};
        for (int[] pair : wrong) {
            due("rate(" + pair[0] + ", " + pair[1] + ")", NO, hand.rate(pair[0], pair[1]));
        }
        due("no body was asked", 0, hand.trace());
        due("first kind, last caller", 4, hand.rate(0, 1));
        due("last kind, first caller", 3, hand.rate(5, 0));
        VelvetHand nobody = new VelvetHand();
        for (int kind = -1; kind <= 6; kind++) {
            due("no CALLERS, kind " + kind, NO, nobody.rate(kind, 0));
        }
        due("no body was asked", 0, nobody.trace());
    }

    private static void rateOfWhoYieldedOrLeft() {
        VelvetHand hand = told("g9;v4;c9 4 3 0;c1 30 5 0;");
        hand.shakes(0, 0);
        Checks.shakeAll(hand, 1, "00");
        due("YIELDED: LAND stays his", 3, hand.rate(0, 0));
        due("YIELDED: not WARM", 3, hand.rate(1, 0));
        due("YIELDED: not BRUISED", 3, hand.rate(2, 0));
        due("LEFT: WARM as he left", 13, hand.rate(1, 1));
        due("LEFT: BRUISED as he left", -13, hand.rate(2, 1));
    }

    private static void traceOfEachKind() {
        long[] asked = {1, 11, 101, 1011, 10101, 100001};
        for (int kind = 0; kind < 6; kind++) {
            VelvetHand hand = told("c1 0 0 0;c1 0 0 0;");
            due("0 at first", 0, hand.trace());
            for (int i = 1; i <= 20; i++) {
                hand.rate(kind, i % 2);
                due("THE TRACE of kind " + kind + ", asked " + i, i * asked[kind], hand.trace());
            }
        }
    }

    private static void traceGoesOn() {
        VelvetHand hand = told("g9;v4;s1;c9 4 3 0;");
        hand.keep(0);
        hand.shakes(0, 0);
        hand.rate(5, 0);
        due("asked", 100001, hand.trace());
        hand.undo();
        due("behind undo", 100001, hand.trace());
        hand.back(0);
        due("behind back", 100001, hand.trace());
        hand.keep(1);
        due("behind keep", 100001, hand.trace());
        hand.rate(0, 0);
        due("goes on", 100002, hand.trace());
        Checks.typeAll(hand, "x");
        hand.embassy();
        due("behind a fault", 100002, hand.trace());
        hand.clear();
        hand.embassy();
        due("behind embassy", 100002, hand.trace());
        hand.rate(0, 0);
        due("nobody to rate", 100002, hand.trace());
        Checks.typeAll(hand, "c1 0 0 0;");
        hand.embassy();
        hand.rate(4, 0);
        due("goes on behind embassy", 110103, hand.trace());
        VelvetHand many = told("c1 0 0 0;");
        for (int i = 0; i < 480; i++) {
            many.rate(5, 0);
        }
        due("no wrap-around", 48000480, many.trace());
    }

    private static void keptFirstAndLast() {
        VelvetHand hand = told("c1 0 0 0;");
        int[] wrong = {-1, 2, 3, 32, Integer.MIN_VALUE, Integer.MAX_VALUE};
        for (int image : wrong) {
            due("keep(" + image + ")", BAD, hand.keep(image));
            due("back(" + image + ")", BAD, hand.back(image));
        }
        due("none was kept, first", STATE, hand.back(0));
        due("none was kept, last", STATE, hand.back(1));
        due("keep first", 0, hand.keep(0));
        due("last was not kept", STATE, hand.back(1));
        due("first was", 0, hand.back(0));
        due("keep last", 0, hand.keep(1));
        due("last was", 0, hand.back(1));
        VelvetHand last = told("c1 0 0 0;");
        due("keep last only", 0, last.keep(1));
        due("first was not kept", STATE, last.back(0));
    }

    private static void keptNone() {
        VelvetHand hand = new VelvetHand();
        due("back of none", STATE, hand.back(0));
        due("an image of nobody", 0, hand.keep(0));
        hand.lines(9);
        due("back to nobody", 0, hand.back(0));
        due("VELVET as at first", 3, hand.now(0));
    }

    private static void keptOverAgain() {
        VelvetHand hand = told("g9;v9;s60;" + "c1 0 1 0;".repeat(6));
        for (int c = 0; c < 6; c++) {
            due("so many YIELDED", c, hand.keep(0));
            hand.shakes(c, 0);
        }
        due("back to the latest", 5, hand.back(0));
        due("the sixth has not YIELDED", 0, hand.caller(5, 6));
        due("the fifth has", 1, hand.caller(4, 6));
        hand.shakes(5, 0);
        due("all YIELDED", 6, hand.keep(1));
        due("back to five", 5, hand.back(0));
        due("back to six", 6, hand.back(1));
    }

    private static void keptIsACopy() {
        VelvetHand hand = told("g3;v2;s60;c30 30 0 0;");
        hand.shakes(0, 0);
        hand.keep(0);
        hand.shakes(0, 1);
        due("back", 0, hand.back(0));
        due("BRUISED as kept", 3, hand.caller(0, 4));
        due("WARM as kept", 2, hand.caller(0, 5));
        hand.shakes(0, 0);
        hand.lines(9);
        hand.back(0);
        due("the image is not changed by what follows back: BRUISED", 3, hand.caller(0, 4));
        due("WARM", 2, hand.caller(0, 5));
        due("VELVET", 2, hand.now(0));
    }

    private static void backBringsAll() {
        VelvetHand hand = told("g9;v3;s2;c9 3 4 0;c1 30 2 0;c30 30 1 0;");
        hand.shakes(2, 1);
        hand.keep(0);
        hand.shakes(0, 0);
        hand.opens();
        Checks.shakeAll(hand, 1, "00");
        hand.lines(7);
        hand.keep(1);
        due("SHUT", 1, hand.now(3));
        for (int round = 0; round < 3; round++) {
            due("back to the first", 0, hand.back(0));
            moment(hand, new int[] {3, 1, 9, NONE, 0, 0, 0}, new int[][] {{0, 0, 0, 0}, {0, 0, 0, 0}, {0, 6, 0, 0}});
            due("back to the last", 1, hand.back(1));
            moment(hand, new int[] {7, 0, 9, 1, 4, 0, 0}, new int[][] {{0, 0, 1, 0}, {18, 6, 0, 1}, {0, 6, 0, 0}});
            due("SHUT again: nobody is SHAKEN", STATE, hand.shakes(2, 0));
            due("who LEFT has LEFT again", STATE, hand.way(1, -1));
        }
    }

    private static void moment(VelvetHand hand, int[] nows, int[][] callers) {
        for (int what = 0; what < nows.length; what++) {
            due("now(" + what + ")", what == 5 ? 1 : nows[what], hand.now(what));
        }
        for (int c = 0; c < callers.length; c++) {
            for (int what = 0; what < 4; what++) {
                due("caller(" + c + ", " + (what + 4) + ")", callers[c][what], hand.caller(c, what + 4));
            }
        }
    }

    private static void backBringsNothingElse() {
        VelvetHand hand = told("g9;v3;s2;c9 3 4 0;");
        hand.keep(0);
        hand.tells(0, 1, 1);
        hand.rate(0, 0);
        Checks.typeAll(hand, "abc");
        hand.back(0);
        due("what was TOLD stays", 1, hand.count(4));
        due("SOFT stays", 1016, hand.soft());
        due("THE TEXT stays", 3, hand.count(5));
        due("THE TRACE stays", 1, hand.trace());
        due("VELVET as told stays", 3, hand.count(2));
    }

    private static void nothingIsUndoneBehindBack() {
        VelvetHand hand = told("g1;v1;s60;c30 30 0 0;");
        hand.keep(0);
        Checks.shakeAll(hand, 0, "000000000000");
        due("ten may be", 10, hand.now(6));
        due("refused back", STATE, hand.back(1));
        due("still ten", 10, hand.now(6));
        due("wrong back", BAD, hand.back(2));
        due("still ten", 10, hand.now(6));
        due("back", 0, hand.back(0));
        due("none", 0, hand.now(6));
        due("undo", STATE, hand.undo());
        hand.shakes(0, 0);
        due("one again", 1, hand.now(6));
        due("undone", 0, hand.undo());
        due("as the image has it", 0, hand.caller(0, 4));
        due("no further", STATE, hand.undo());
    }

    private static void keepIsNoAct() {
        VelvetHand hand = told("g1;v1;s60;c30 30 0 0;");
        due("nothing may be UNDONE", 0, hand.keep(0) + hand.now(6));
        hand.shakes(0, 0);
        hand.keep(1);
        due("the shake only", 1, hand.now(6));
        due("undone", 0, hand.undo());
        due("the image stays", 0, hand.back(1));
        due("BRUISED as the image has it", 1, hand.caller(0, 4));
    }

    private static void bothImagesForThemselves() {
        VelvetHand hand = told("v0;");
        hand.lines(4);
        hand.keep(0);
        hand.lines(5);
        hand.keep(1);
        hand.lines(6);
        hand.back(0);
        due("the first", 4, hand.now(0));
        hand.keep(1);
        hand.lines(7);
        hand.back(1);
        due("the last is as the first now", 4, hand.now(0));
        hand.lines(8);
        hand.keep(0);
        hand.back(1);
        due("the last stays", 4, hand.now(0));
        hand.back(0);
        due("the first is new", 8, hand.now(0));
    }

    private static void imagesAreGoneBehindEmbassy() {
        VelvetHand hand = told("c1 0 0 0;");
        hand.keep(0);
        hand.keep(1);
        hand.embassy();
        due("first", STATE, hand.back(0));
        due("last", STATE, hand.back(1));
        hand.keep(1);
        due("last is kept anew", 0, hand.back(1));
        due("first is not", STATE, hand.back(0));
    }

    private static void imagesStayBehindAFault() {
        VelvetHand hand = told("v2;c1 0 0 0;");
        hand.lines(5);
        hand.keep(0);
        hand.lines(6);
        Checks.typeAll(hand, "v3;;");
        due("a fault", -13, hand.embassy());
        due("VELVET stays", 6, hand.now(0));
        due("the image stays", 0, hand.back(0));
        due("as it was kept", 5, hand.now(0));
    }

    private static void countFromFirstToLast() {
        VelvetHand hand = told("g0;v9;s1;" + "c1 0 0 0;".repeat(6));
        int[] counts = {6, 0, 9, 1, 0, 0};
        for (int what = 0; what < 6; what++) {
            due("count(" + what + ")", counts[what], hand.count(what));
        }
        int[] wrong = {-1, 6, 7, Integer.MIN_VALUE, Integer.MAX_VALUE};
        for (int what : wrong) {
            due("count(" + what + ")", BAD, hand.count(what));
            due("now(" + what + ")", what == 6 ? 0 : BAD, hand.now(what));
        }
        for (int i = 0; i < 6; i++) {
            hand.tells(0, 1, 1);
        }
        Checks.typeAll(hand, "x".repeat(120));
        hand.lines(0);
        due("most TOLD", 6, hand.count(4));
        due("most letters", 120, hand.count(5));
        due("VELVET as told", 9, hand.count(2));
    }
}
