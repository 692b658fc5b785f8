/** Each edge that the document names of how to have land, and of rings: Terms 3, promises 5, 6, 13 to 16. */
public final class EdgeLandTest {
    private static final int NONE = Checks.NONE, STATE = Checks.STATE, BAD = Checks.BAD;

    public static void main(String[] args) {
        wayOfOneToTen();
        wayOfTurnedOnes();
        wayAsksFromMinusOneToNine();
        wayPlainAheadOfTurned();
        wayWithoutLeaving();
        wayAsThingsAreNow();
        wayByGripOrVelvetNone();
        wayOfWhoYieldedOrLeft();
        springDoesNotMatter();
        gainFrom0To40();
        gainOfJustSoMany();
        gainOfNobody();
        gainOfMostLandThenFewestThenLeast();
        gainWithoutThoseWhoYieldedOrLeft();
        tuneSetsFromNoneToAll();
        tuneFromOneToFive();
        tuneFrom0To99();
        tuneLeastGripThenVelvet();
        tuneJustTheSetAndNoneLeaves();
        tuneAsIfTheyHadNot();
        ringsOfNoneToSix();
        tradedFromNoneToAll();
        oddsFromNoneToTen();
        oddsOfNoneToSix();
        oddsOfThoseWhoHaveNotLeft();
        oddsInLeastTerms();
        allThisChangesNothing();
        Checks.end();
    }

    private static void due(String what, long want, long got) {
        Checks.due(what, want, got);
    }

    private static VelvetHand told(String text) {
        return Checks.told(text);
    }

    private static void ways(String what, VelvetHand hand, int c, String row) {
        due(what + ": how many", row.isEmpty() ? NONE : row.length(), hand.way(c, -1));
        for (int k = 0; k < 10; k++) {
            due(what + ": shake " + k, k < row.length() ? row.charAt(k) - '0' : NONE, hand.way(c, k));
        }
        if (!row.isEmpty()) {
            due(what + ": and so it is", 1, Checks.shakeAll(hand, c, row));
            due(what + ": not having LEFT", 0, hand.caller(c, 7));
        }
    }

    private static void wayOfOneToTen() {
        for (int shakes = 1; shakes <= 10; shakes++) {
            String what = "a way of " + shakes;
            ways(what + ", most PRIDE", told("g3;v3;s60;c" + 3 * shakes + " 0 0 0;"), 0, "0".repeat(shakes));
            ways(what + ", least PRIDE", told("g3;v3;s60;c" + (3 * shakes - 2) + " 0 0 0;"), 0, "0".repeat(shakes));
        }
        VelvetHand hand = told("g2;v2;s60;c20 0 0 0;c21 0 0 0;c22 0 0 0;");
        ways("just ten", hand, 0, "0".repeat(10));
        ways("eleven", hand, 1, "");
        hand.shakes(1, 0);
        ways("eleven, but for one that was", hand, 1, "0".repeat(10));
        hand.shakes(2, 1);
        ways("a turned one does not bruise", hand, 2, "");
    }

    private static void wayOfTurnedOnes() {
        VelvetHand hand = told("g9;v2;s60;c9 20 0 0;c9 24 0 0;c1 30 0 0;");
        ways("turned ones, then plain ones", hand, 0, "001111");
        ways("turned ones, one more", hand, 1, "0011111");
        ways("one plain at most", hand, 2, "01111111");
        VelvetHand ten = told("g1;v1;s60;c1 19 0 0;c1 20 0 0;c10 11 0 0;c9 11 0 0;c9 12 0 0;c10 10 0 0;");
        ways("ten, one of them plain", ten, 0, "0111111111");
        ways("eleven", ten, 1, "");
        ways("ten plain are too cold", ten, 2, "");
        ways("ten, one of them turned", ten, 3, "0000000001");
        ways("ten are too cold", ten, 4, "");
        ways("ten plain", ten, 5, "0000000000");
    }

    private static void wayAsksFromMinusOneToNine() {
        VelvetHand hand = told("g3;v3;s60;c30 0 0 0;c3 0 0 0;c30 30 0 0;");
        due("k below", BAD, hand.way(0, -2));
        due("k least", 10, hand.way(0, -1));
        due("k first", 0, hand.way(0, 0));
        due("k last", 0, hand.way(0, 9));
        due("k above", BAD, hand.way(0, 10));
        due("way of one, first", 0, hand.way(1, 0));
        due("way of one, no second", NONE, hand.way(1, 1));
        due("way of one, no last", NONE, hand.way(1, 9));
        due("way of one, above", BAD, hand.way(1, 10));
        VelvetHand none = told("g0;c1 0 0 0;");
        due("no way, how many", NONE, none.way(0, -1));
        due("no way, first", NONE, none.way(0, 0));
        due("no way, last", NONE, none.way(0, 9));
        due("no way, below", BAD, none.way(0, -2));
        due("no way, above", BAD, none.way(0, 10));
    }

    private static void wayPlainAheadOfTurned() {
        VelvetHand hand = told("g5;v5;s60;c5 15 0 0;c5 10 0 0;c10 15 0 0;c1 20 0 0;");
        ways("one of two is turned: the second", hand, 0, "01");
        ways("none need be turned", hand, 1, "00");
        ways("of several of three", hand, 2, "000");
        ways("of three", hand, 3, "001");
        VelvetHand bruised = told("g5;v5;s60;c5 30 0 0;c5 30 0 0;");
        ways("as few plain ones ahead as he bears", bruised, 0, "0011");
        bruised.shakes(1, 0);
        ways("one was plain", bruised, 1, "011");
    }

    private static void wayWithoutLeaving() {
        VelvetHand hand = told("g9;v2;s60;c8 8 0 0;c7 8 0 0;c10 6 0 0;c7 4 0 0;c1 4 0 0;");
        ways("18 is PRIDE and 10", hand, 0, "001");
        ways("18 is beyond", hand, 1, "010");
        ways("third plain one yields beyond PRIDE and 10", hand, 2, "000");
        ways("second plain one yields", hand, 3, "00");
        ways("two plain ones yield beyond PRIDE and 10", hand, 4, "00");
        VelvetHand brink = told("g6;v1;s60;c2 4 0 0;c2 4 0 0;");
        brink.shakes(0, 0);
        brink.shakes(0, 0);
        due("BRUISED by PRIDE and 10", 12, brink.caller(0, 4));
        ways("the next plain one would be too much", brink, 0, "1");
        ways("but fewer are", brink, 1, "001");
        VelvetHand first = told("g6;v1;s60;c2 5 0 0;c2 22 0 0;c2 23 0 0;c2 4 0 0;");
        for (int c = 0; c < 4; c++) {
            Checks.shakeAll(first, c, "00");
        }
        ways("he would leave by the first plain one, by the second he yields", first, 0, "10");
        ways("ten, none of them plain", first, 1, "1111111111");
        ways("eleven, none of them plain", first, 2, "");
        ways("one, not plain", first, 3, "1");
        VelvetHand lost = told("g9;v0;s60;c1 1 0 0;c30 1 0 0;");
        ways("never WARM", lost, 0, "");
        ways("never WARM, however proud", lost, 1, "");
        VelvetHand cold = told("g9;v1;s60;c1 30 0 0;");
        ways("would leave, or be too cold", cold, 0, "");
    }

    private static void wayAsThingsAreNow() {
        VelvetHand hand = told("g4;v3;s60;c8 12 0 0;c8 12 0 0;c8 12 0 0;");
        ways("at first", hand, 0, "001");
        hand.shakes(1, 0);
        hand.shakes(1, 1);
        ways("WARM by 9, BRUISED by 4", hand, 1, "0");
        hand.shakes(2, 0);
        hand.lines(9);
        ways("VELVET now", hand, 2, "0");
        VelvetHand warm = told("g4;v9;s60;c8 9 0 0;");
        warm.shakes(0, 1);
        warm.lines(0);
        ways("WARM enough, two bruises are left", warm, 0, "00");
        VelvetHand consoled = told("g9;v1;s60;c9 2 0 0;");
        consoled.shakes(0, 0);
        due("BRUISED", 9, consoled.consoles(0));
        ways("CONSOLED", consoled, 0, "0");
    }

    private static void wayByGripOrVelvetNone() {
        VelvetHand hand = told("g0;v9;s60;c1 0 0 0;");
        ways("GRIP 0", hand, 0, "");
        VelvetHand velvet = told("g9;v0;s60;c27 0 0 0;c1 1 0 0;");
        ways("VELVET 0, HEART 0", velvet, 0, "000");
        ways("VELVET 0, HEART 1", velvet, 1, "");
        velvet.lines(1);
        ways("VELVET 1, HEART 1", velvet, 1, "0");
    }

    private static void wayOfWhoYieldedOrLeft() {
        VelvetHand hand = told("g9;v3;s60;c9 3 0 0;c1 30 0 0;c9 3 0 0;");
        hand.shakes(0, 0);
        Checks.shakeAll(hand, 1, "00");
        for (int c = 0; c < 2; c++) {
            due("how many", STATE, hand.way(c, -1));
            due("first", STATE, hand.way(c, 0));
            due("last", STATE, hand.way(c, 9));
            due("BAD ahead of STATE, below", BAD, hand.way(c, -2));
            due("BAD ahead of STATE, above", BAD, hand.way(c, 10));
        }
        due("neither", 1, hand.way(2, -1));
        due("there is none", BAD, hand.way(3, -1));
        due("there is none below", BAD, hand.way(-1, -1));
        hand.undo();
        due("has not LEFT when that is undone", 5, hand.way(1, -1));
        hand.undo();
        hand.undo();
        due("has not YIELDED when that is undone", 1, hand.way(0, -1));
    }

    private static void springDoesNotMatter() {
        VelvetHand hand = told("g3;v3;s1;c30 0 7 0;c3 0 2 0;");
        due("SPRING 1, a way of ten", 10, hand.way(0, -1));
        due("SPRING 1, gain", 9, hand.gain(11, 0));
        due("SPRING 1, tune", 60, hand.tune(3, 5));
        due("SPRING 1, told", 1, hand.tells(0, 9, 1));
        due("SPRING 1, soft", 0, hand.soft());
        hand.forget();
        hand.shakes(0, 0);
        due("SHUT", 0, hand.now(3));
        due("SHUT, way", 9, hand.way(0, -1));
        due("SHUT, its last", 0, hand.way(0, 8));
        due("SHUT, no more", NONE, hand.way(0, 9));
        due("SHUT, gain", 9, hand.gain(10, 0));
        due("SHUT, tune", 60, hand.tune(3, 5));
        due("SHUT, soft", 1023, hand.soft());
        due("SHUT, ask", 0, hand.ask(1));
    }

    private static void gainFrom0To40() {
        VelvetHand hand = told("g3;v3;s60;c30 0 5 0;c30 0 4 0;c30 0 3 0;c30 0 2 0;c3 0 1 0;");
        due("n below", BAD, hand.gain(-1, 0));
        due("n least, how much", 0, hand.gain(0, 0));
        due("n least, which", 0, hand.gain(0, 1));
        due("n most, how much", 14, hand.gain(40, 0));
        due("n most, which", 15, hand.gain(40, 1));
        due("n above", BAD, hand.gain(41, 0));
        due("what below", BAD, hand.gain(40, -1));
        due("what above", BAD, hand.gain(40, 2));
        hand.shakes(3, 0);
        due("41 less one, how much", 15, hand.gain(40, 0));
        due("41 less one, which", 31, hand.gain(40, 1));
        due("one shake less", 14, hand.gain(39, 0));
    }

    private static void gainOfJustSoMany() {
        VelvetHand hand = told("g3;v3;s60;c3 0 1 0;c6 0 3 0;c9 0 7 0;");
        int[] sets = {0, 1, 2, 4, 5, 6, 7, 7};
        int[] lands = {0, 1, 3, 7, 8, 10, 11, 11};
        for (int n = 0; n < sets.length; n++) {
            due("which of " + n, sets[n], hand.gain(n, 1));
            due("how much of " + n, lands[n], hand.gain(n, 0));
        }
    }

    private static void gainOfNobody() {
        VelvetHand hand = new VelvetHand();
        due("no CALLERS, how much", 0, hand.gain(40, 0));
        due("no CALLERS, which", 0, hand.gain(40, 1));
        due("no CALLERS, above", BAD, hand.gain(41, 1));
        VelvetHand poor = told("g3;v3;c3 0 0 0;c3 0 0 0;");
        due("no LAND: of fewest shakes, so none", 0, poor.gain(40, 1));
        VelvetHand lost = told("g0;c1 0 9 0;c1 0 9 0;");
        due("no WAYS, how much", 0, lost.gain(40, 0));
        due("no WAYS, which", 0, lost.gain(40, 1));
    }

    private static void gainOfMostLandThenFewestThenLeast() {
        VelvetHand most = told("g3;v3;s60;c3 0 4 0;c30 0 5 0;");
        due("most LAND, though of more shakes", 2, most.gain(10, 1));
        VelvetHand fewest = told("g3;v3;s60;c6 0 5 0;c3 0 5 0;c6 0 0 0;");
        due("of fewest shakes", 2, fewest.gain(2, 1));
        due("nobody without LAND", 3, fewest.gain(5, 1));
        VelvetHand least = told("g3;v3;s60;c3 0 5 0;c3 0 5 0;c3 0 5 0;");
        due("one: the least", 1, least.gain(1, 1));
        due("two: the least", 3, least.gain(2, 1));
        VelvetHand bits = told("g3;v3;s60;c3 0 2 0;c3 0 2 0;c6 0 4 0;");
        due("the least number of a set, though of more CALLERS", 3, bits.gain(2, 1));
        VelvetHand all = told("g9;v9;s60;" + "c1 0 9 0;".repeat(6));
        for (int n = 0; n <= 7; n++) {
            due("LAND of " + n, 9 * Math.min(6, n), all.gain(n, 0));
            due("the lowest " + n, (1 << Math.min(6, n)) - 1, all.gain(n, 1));
        }
    }

    private static void gainWithoutThoseWhoYieldedOrLeft() {
        VelvetHand hand = told("g9;v3;s60;c9 3 9 0;c1 30 8 0;c9 3 1 0;");
        hand.shakes(0, 0);
        Checks.shakeAll(hand, 1, "00");
        due("LAND of the third only", 1, hand.gain(40, 0));
        due("the third only", 4, hand.gain(40, 1));
        hand.shakes(2, 0);
        due("nobody is left", 0, hand.gain(40, 1));
    }

    private static void tuneSetsFromNoneToAll() {
        String text = "";
        for (int callers = 0; callers <= 6; callers++) {
            VelvetHand hand = told("s60;" + text);
            int all = (1 << callers) - 1;
            due("set below", BAD, hand.tune(-1, 1));
            due("none of " + callers, 0, hand.tune(0, 1));
            due("all of " + callers, callers == 0 ? 0 : 10, hand.tune(all, 1));
            due("one beyond " + callers, BAD, hand.tune(all + 1, 1));
            due("one beyond and all", BAD, hand.tune(2 * all + 1 + (callers == 0 ? 1 : 0), 1));
            due("far below", BAD, hand.tune(Integer.MIN_VALUE, 1));
            due("far above", BAD, hand.tune(Integer.MAX_VALUE, 1));
            text += "c1 0 0 0;";
        }
    }

    private static void tuneFromOneToFive() {
        VelvetHand hand = told("c5 0 0 0;c30 30 0 0;");
        due("k below", BAD, hand.tune(1, 0));
        due("k least", 50, hand.tune(1, 1));
        due("k 2", 30, hand.tune(1, 2));
        due("k 3", 20, hand.tune(1, 3));
        due("k 4", 20, hand.tune(1, 4));
        due("k most", 10, hand.tune(1, 5));
        due("k most, both", 66, hand.tune(3, 5));
        due("k above", BAD, hand.tune(1, 6));
        due("both wrong", BAD, hand.tune(4, 6));
    }

    private static void tuneFrom0To99() {
        due("GRIP 0, VELVET 0", 0, told("c1 0 0 0;").tune(0, 5));
        due("GRIP 9, VELVET 9", 99, told("c9 9 0 0;").tune(1, 1));
        due("GRIP 9 at most", NONE, told("c10 9 0 0;").tune(1, 1));
        due("VELVET 9 at most", NONE, told("c9 10 0 0;").tune(1, 1));
        due("GRIP 9, VELVET 0", 90, told("c9 0 0 0;").tune(1, 1));
        due("GRIP 1, VELVET 9", 19, told("c1 9 0 0;").tune(1, 1));
    }

    private static void tuneLeastGripThenVelvet() {
        VelvetHand hand = told("c4 5 0 0;c5 4 0 0;");
        due("the first alone", 45, hand.tune(1, 1));
        due("the second alone", 54, hand.tune(2, 1));
        due("both", 55, hand.tune(3, 1));
        due("neither", 0, hand.tune(0, 1));
        VelvetHand trade = told("c6 12 0 0;");
        due("least GRIP, though VELVET were less by more", 24, trade.tune(1, 3));
    }

    private static void tuneJustTheSetAndNoneLeaves() {
        VelvetHand hand = told("c8 1 0 0;c8 2 0 0;");
        due("the second can't yield alone", NONE, hand.tune(2, 1));
        due("by twice he would have YIELDED, too", NONE, hand.tune(1, 2));
        due("the first can by once", 81, hand.tune(1, 1));
        // Shaken twice by 9 the first is BRUISED by 18: just PRIDE and 10; the second by 1 more than that.
        VelvetHand stays = told("c8 30 0 0;c18 0 0 0;");
        due("BRUISED by PRIDE and 10 stays", 90, stays.tune(2, 2));
        VelvetHand leaves = told("c7 30 0 0;c18 0 0 0;");
        due("by one more he leaves", NONE, leaves.tune(2, 2));
        VelvetHand both = told("c1 1 0 0;c18 0 0 0;");
        due("he yields, is not BRUISED, and so does not leave", 91, both.tune(3, 2));
        VelvetHand again = told("c1 8 0 0;c8 0 0 0;");
        due("by 8 and 8 both at the fourth", 22, again.tune(3, 4));
    }

    private static void tuneAsIfTheyHadNot() {
        VelvetHand hand = told("g9;v3;s60;c9 3 0 0;c1 30 0 0;c9 9 0 0;");
        int before = hand.tune(5, 3);
        int all = hand.tune(7, 5);
        hand.shakes(0, 0);
        Checks.shakeAll(hand, 1, "00");
        hand.shakes(2, 0);
        hand.shakes(2, 0);
        hand.lines(9);
        due("YIELDED, LEFT", 2, hand.caller(0, 6) + hand.caller(1, 7));
        due("as if they had not", before, hand.tune(5, 3));
        due("as if they had not, all", all, hand.tune(7, 5));
        due("by this", 33, before);
        due("by that", 26, all);
    }

    private static void ringsOfNoneToSix() {
        for (int size = 1; size <= 6; size++) {
            String ring = "";
            for (int c = 0; c < size; c++) {
                ring += "c1 0 0 " + (c + 1) % size + ";";
            }
            String others = "c1 0 0 0;".repeat(6 - size);
            VelvetHand hand = told(ring + others);
            for (int c = 0; c < 6; c++) {
                due("RING of " + size + ", caller " + c, c < size ? size : 0, hand.caller(c, 8));
            }
            due("TRADED of " + size, (1 << size) - 1, hand.now(5));
        }
        VelvetHand chain = told("c1 0 0 1;c1 0 0 2;c1 0 0 3;c1 0 0 4;c1 0 0 5;c1 0 0 5;");
        for (int c = 0; c < 5; c++) {
            due("leads to a ring, is of none", 0, chain.caller(c, 8));
        }
        due("his own", 1, chain.caller(5, 8));
        VelvetHand open = told("c1 0 0 1;c1 0 0 2;c1 0 0 3;c1 0 0 4;c1 0 0 5;");
        for (int c = 0; c < 5; c++) {
            due("leads to nobody", 0, open.caller(c, 8));
        }
        due("nobody TRADED", 0, open.now(5));
    }

    private static void tradedFromNoneToAll() {
        due("no CALLERS", 0, new VelvetHand().now(5));
        due("all their own", 63, told("c1 0 0 0;c1 0 0 1;c1 0 0 2;c1 0 0 3;c1 0 0 4;c1 0 0 5;").now(5));
        due("two rings of three", 63, told("c1 0 0 2;c1 0 0 3;c1 0 0 4;c1 0 0 5;c1 0 0 0;c1 0 0 1;").now(5));
        VelvetHand hand = told("g9;v9;s60;c1 0 0 1;c1 0 0 0;c1 30 0 2;");
        hand.shakes(0, 0);
        hand.lines(0);
        Checks.shakeAll(hand, 2, "00");
        due("also who YIELDED or LEFT", 7, hand.now(5));
        due("RING of one who YIELDED", 2, hand.caller(0, 8));
        due("RING of one who LEFT", 1, hand.caller(2, 8));
    }

    private static void odds(VelvetHand hand, int x, int k, int upper, int lower) {
        due("odds(" + x + ", " + k + "), upper", upper, hand.odds(x, k, 0));
        due("odds(" + x + ", " + k + "), lower", lower, hand.odds(x, k, 1));
    }

    private static void oddsFromNoneToTen() {
        VelvetHand hand = told("c1 0 0 0;");
        due("x below", BAD, hand.odds(-1, 0, 0));
        due("x above", BAD, hand.odds(11, 0, 0));
        int[] upper = {1, 9, 4, 7, 3, 1, 2, 3, 1, 1, 0};
        int[] lower = {1, 10, 5, 10, 5, 2, 5, 10, 5, 10, 1};
        for (int x = 0; x <= 10; x++) {
            odds(hand, x, 0, upper[x], lower[x]);
            odds(hand, x, 1, 1, 1);
            odds(hand, x, 6, 1, 1);
        }
    }

    private static void oddsOfNoneToSix() {
        VelvetHand hand = told("c1 0 0 0;".repeat(6));
        due("k below", BAD, hand.odds(1, -1, 0));
        due("k above", BAD, hand.odds(1, 7, 0));
        due("what below", BAD, hand.odds(1, 0, -1));
        due("what above", BAD, hand.odds(1, 0, 2));
        int[] atMost = {1, 7, 22, 42, 57, 63};
        int[] lower = {64, 64, 32, 32, 64, 64};
        int[] divided = {1, 7, 11, 21, 57, 63};
        for (int k = 0; k < 6; k++) {
            due("of 64", atMost[k], divided[k] * (64 / lower[k]));
            odds(hand, 5, k, divided[k], lower[k]);
            odds(hand, 0, k, 1, 1);
            odds(hand, 10, k, 0, 1);
        }
        odds(hand, 5, 6, 1, 1);
        odds(hand, 0, 6, 1, 1);
        odds(hand, 10, 6, 1, 1);
        odds(hand, 1, 5, 999999, 1000000);
        odds(hand, 9, 0, 1, 1000000);
    }

    private static void oddsOfThoseWhoHaveNotLeft() {
        VelvetHand nobody = new VelvetHand();
        for (int k = 0; k <= 6; k++) {
            odds(nobody, 0, k, 1, 1);
            odds(nobody, 10, k, 1, 1);
        }
        VelvetHand hand = told("g9;v0;s60;" + "c1 1 0 0;".repeat(3));
        int[] uppers = {27, 9, 3, 1};
        int[] lowers = {1000, 100, 10, 1};
        for (int left = 0; left <= 3; left++) {
            odds(hand, 7, 0, uppers[left], lowers[left]);
            odds(hand, 10, 3 - left, 1, 1);
            odds(hand, 10, Math.max(0, 2 - left), left == 3 ? 1 : 0, 1);
            Checks.shakeAll(hand, Math.min(2, left), "00");
        }
        VelvetHand yielded = told("g9;v9;c1 0 0 0;");
        yielded.shakes(0, 0);
        odds(yielded, 3, 0, 7, 10);
    }

    private static void oddsInLeastTerms() {
        String text = "";
        for (int callers = 1; callers <= 6; callers++) {
            text += "c1 0 0 0;";
            VelvetHand hand = told(text);
            for (int x = 0; x <= 10; x++) {
                for (int k = 0; k <= 6; k++) {
                    long upper = hand.odds(x, k, 0);
                    long lower = hand.odds(x, k, 1);
                    String what = "odds(" + x + ", " + k + ") of " + callers;
                    due(what + " are in least terms", 1, commonDivisor(upper, lower));
                    due(what + " are due", casesOf(callers, x, k) * lower, upper * power(10, callers));
                }
            }
        }
    }

    private static long commonDivisor(long a, long b) {
        return b == 0 ? a : commonDivisor(b, a % b);
    }

    private static long casesOf(int callers, int x, int k) {
        if (k < 0) {
            return 0;
        }
        return callers == 0 ? 1 : x * casesOf(callers - 1, x, k - 1) + (10 - x) * casesOf(callers - 1, x, k);
    }

    private static long power(long base, int exponent) {
        return exponent == 0 ? 1 : base * power(base, exponent - 1);
    }

    private static void allThisChangesNothing() {
        String text = "g4;v3;s5;c8 6 5 1;c4 12 7 2;c12 5 3 0;c20 20 9 3;c5 0 2 5;";
        Checks.changesNothing("all questions", text, hand -> {
            hand.shakes(0, 0);
            hand.keep(0);
            hand.shakes(4, 0);
            hand.shakes(4, 1);
            hand.tells(1, 3, 0);
            hand.shakes(1, 0);
        }, 0, hand -> {
            for (int c = 0; c < 4; c++) {
                hand.way(c, -1);
                hand.way(c, 9);
                hand.caller(c, 8);
            }
            hand.gain(40, 1);
            hand.tune(31, 5);
            hand.odds(3, 3, 1);
            hand.soft();
            hand.ask(9);
            return hand.way(0, 0);
        });
    }
}
