/** Each edge that the document names of what is within: Terms 3, promises 17 to 20. */
public final class EdgeWithinTest {
    private static final int NONE = Checks.NONE, BAD = Checks.BAD, FULL = Checks.FULL;

    public static void main(String[] args) {
        toldFromNoneToSix();
        toldOfEachCaller();
        toldOfOneToNineShakes();
        toldYieldedOrNot();
        forgottenFromNoneToSix();
        softOfNothing();
        softOfEachVelvet();
        softOfJustHeart();
        softThoughHeMayHaveLeft();
        softWhenYieldedBeyondPrideAndTen();
        softByGripNone();
        softNeverAndAlways();
        softOfSix();
        softDoesNotAskNow();
        askOfOneToNineShakes();
        askOfNoneOneAndTwoVelvets();
        askOfNobody();
        askSmallestOfTheGreaterParts();
        askOfSeveralTheLowest();
        askAlsoOfWhoYieldedOrLeft();
        toldAnew();
        Checks.end();
    }

    private static void due(String what, long want, long got) {
        Checks.due(what, want, got);
    }

    private static VelvetHand told(String text) {
        return Checks.told(text);
    }

    private static int velvetsFrom(int least) {
        return 1023 >> least << least;
    }

    private static void toldFromNoneToSix() {
        VelvetHand hand = told("g9;c9 5 0 0;");
        due("none", 0, hand.count(4));
        for (int i = 1; i <= 6; i++) {
            due("TOLD " + i, i, hand.tells(0, 1, 1));
            due("so much is TOLD", i, hand.count(4));
        }
        due("a seventh", FULL, hand.tells(0, 1, 0));
        due("an eighth", FULL, hand.tells(0, 9, 1));
        due("six stay", 6, hand.count(4));
        due("what was refused is not TOLD", velvetsFrom(5), hand.soft());
        due("BAD ahead of FULL, c", BAD, hand.tells(1, 1, 1));
        due("BAD ahead of FULL, k", BAD, hand.tells(0, 0, 1));
        due("BAD ahead of FULL, yielded", BAD, hand.tells(0, 1, 2));
    }

    private static void toldOfEachCaller() {
        String text = "";
        for (int callers = 0; callers <= 6; callers++) {
            VelvetHand hand = told("g9;" + text);
            due("below", BAD, hand.tells(-1, 1, 1));
            due("just beyond " + callers, BAD, hand.tells(callers, 1, 1));
            due("nothing is TOLD", 0, hand.count(4));
            if (callers > 0) {
                due("the last of " + callers, 1, hand.tells(callers - 1, 1, 1));
                due("and it is of him", velvetsFrom(callers), hand.soft());
            }
            text += "c9 " + (callers + 1) + " 0 0;";
        }
    }

    private static void toldOfOneToNineShakes() {
        VelvetHand hand = told("g1;c9 18 0 0;c1 0 0 0;");
        due("k below", BAD, hand.tells(0, 0, 1));
        due("k above", BAD, hand.tells(0, 10, 1));
        due("k far below", BAD, hand.tells(0, Integer.MIN_VALUE, 1));
        due("nothing is TOLD", 0, hand.count(4));
        due("k most", 1, hand.tells(0, 9, 1));
        due("nine times 2", velvetsFrom(2), hand.soft());
        hand.forget();
        due("k 8", 1, hand.tells(0, 8, 1));
        due("not BRUISED enough by eight", 0, hand.soft());
        hand.forget();
        due("k least", 1, hand.tells(1, 1, 1));
        due("once is enough", 1023, hand.soft());
    }

    private static void toldYieldedOrNot() {
        VelvetHand hand = told("g9;c9 4 0 0;");
        due("yielded below", BAD, hand.tells(0, 1, -1));
        due("yielded above", BAD, hand.tells(0, 1, 2));
        due("not", 1, hand.tells(0, 1, 0));
        due("those by which he does not", 15, hand.soft());
        due("or", 2, hand.tells(0, 1, 1));
        due("both can't be", 0, hand.soft());
    }

    private static void forgottenFromNoneToSix() {
        VelvetHand hand = told("g9;c9 4 0 0;");
        for (int much = 0; much <= 6; much++) {
            for (int i = 0; i < much; i++) {
                hand.tells(0, 1, i % 2);
            }
            due("forgotten", much, hand.forget());
            due("nothing is TOLD", 0, hand.count(4));
            due("all VELVETS", 1023, hand.soft());
            due("forgotten again", 0, hand.forget());
        }
    }

    private static void softOfNothing() {
        due("nothing TOLD, no CALLERS", 1023, new VelvetHand().soft());
        due("nothing TOLD", 1023, told("v9;c30 30 0 0;").soft());
    }

    private static void softOfEachVelvet() {
        for (int heart = 0; heart <= 10; heart++) {
            VelvetHand hand = told("g9;c9 " + heart + " 0 0;");
            hand.tells(0, 1, 1);
            due("YIELDED, HEART " + heart, velvetsFrom(heart), hand.soft());
            hand.forget();
            hand.tells(0, 1, 0);
            due("not YIELDED, HEART " + heart, 1023 - velvetsFrom(heart), hand.soft());
        }
        for (int velvet = 0; velvet <= 9; velvet++) {
            VelvetHand hand = told("g9;c9 " + velvet + " 0 0;c9 " + (velvet + 1) + " 0 0;");
            hand.tells(0, 1, 1);
            hand.tells(1, 1, 0);
            due("just VELVET " + velvet, 1 << velvet, hand.soft());
        }
    }

    private static void softOfJustHeart() {
        VelvetHand hand = told("g3;c9 18 0 0;c9 19 0 0;c10 0 0 0;");
        hand.tells(0, 3, 1);
        due("three times 6 is 18", velvetsFrom(6), hand.soft());
        hand.forget();
        hand.tells(1, 3, 1);
        due("three times 6 is not 19", velvetsFrom(7), hand.soft());
        hand.forget();
        hand.tells(2, 3, 0);
        due("three times 3 is not 10", 1023, hand.soft());
    }

    private static void softThoughHeMayHaveLeft() {
        // By 6 he is BRUISED by 12 behind the second shake: he stays if his PRIDE is 2, but leaves if it is 1.
        VelvetHand hand = told("g6;c1 9 0 0;c2 9 0 0;");
        hand.tells(0, 9, 1);
        due("WARM by 9 ahead of leaving", velvetsFrom(5), hand.soft());
        hand.forget();
        hand.tells(1, 9, 1);
        due("one shake more", velvetsFrom(3), hand.soft());
        hand.forget();
        hand.tells(0, 9, 0);
        due("not YIELDED, though he has LEFT", 31, hand.soft());
        hand.forget();
        hand.tells(1, 2, 0);
        due("not YIELDED, though he has not LEFT", 31, hand.soft());
    }

    private static void softWhenYieldedBeyondPrideAndTen() {
        VelvetHand hand = told("g9;c1 9 0 0;");
        hand.tells(0, 2, 1);
        due("BRUISED by 18 he YIELDS rather than leaves", velvetsFrom(5), hand.soft());
        hand.tells(0, 1, 0);
        due("and not by the first", velvetsFrom(5) - 512, hand.soft());
        hand.forget();
        hand.tells(0, 9, 1);
        due("YIELDED by then, though more shakes came", velvetsFrom(5), hand.soft());
        VelvetHand odd = told("g9;c9 9 0 0;");
        odd.tells(0, 3, 1);
        due("YIELDED by the third, beyond PRIDE and 10, or ahead of it", velvetsFrom(3), odd.soft());
    }

    private static void softByGripNone() {
        VelvetHand hand = told("g0;c1 0 0 0;");
        hand.tells(0, 9, 0);
        due("never BRUISED", 1023, hand.soft());
        hand.tells(0, 9, 1);
        due("never YIELDED", 0, hand.soft());
        due("asks of none", NONE, hand.ask(9));
    }

    private static void softNeverAndAlways() {
        VelvetHand hand = told("g9;v9;c1 0 0 0;c1 30 0 0;");
        hand.tells(0, 1, 1);
        due("HEART 0: by each", 1023, hand.soft());
        hand.tells(0, 1, 0);
        due("by none", 0, hand.soft());
        hand.forget();
        hand.tells(1, 1, 1);
        due("HEART 30: by none at once", 0, hand.soft());
        hand.forget();
        hand.tells(1, 1, 0);
        due("HEART 30: not at once", 1023, hand.soft());
    }

    private static void softOfSix() {
        VelvetHand hand = told("g9;c9 1 0 0;c9 2 0 0;c9 3 0 0;c9 9 0 0;c9 8 0 0;c9 7 0 0;");
        for (int c = 0; c < 3; c++) {
            hand.tells(c, 1, 1);
            due("at least " + (c + 1), velvetsFrom(c + 1), hand.soft());
        }
        for (int c = 3; c < 6; c++) {
            hand.tells(c, 1, 0);
            due("below " + (12 - c), velvetsFrom(3) - velvetsFrom(12 - c), hand.soft());
        }
        due("six are TOLD", 6, hand.count(4));
    }

    private static void softDoesNotAskNow() {
        VelvetHand hand = told("g5;v0;s2;c10 10 0 0;c1 1 0 0;");
        hand.tells(0, 2, 1);
        due("at first", velvetsFrom(5), hand.soft());
        hand.lines(9);
        hand.shakes(0, 0);
        due("BRUISED and WARM do not matter", velvetsFrom(5), hand.soft());
        hand.shakes(0, 0);
        due("SHUT does not matter", velvetsFrom(5), hand.soft());
        due("YIELDED does not matter", 1, hand.caller(0, 6));
        hand.undo();
        hand.keep(0);
        hand.back(0);
        due("nor undo, keep, back", velvetsFrom(5), hand.soft());
        due("one is TOLD", 1, hand.count(4));
    }

    private static void askOfOneToNineShakes() {
        VelvetHand hand = told("g1;c9 20 0 0;c1 5 0 0;");
        due("k below", BAD, hand.ask(0));
        due("k least", 1, hand.ask(1));
        due("k most", 0, hand.ask(9));
        due("k above", BAD, hand.ask(10));
        due("k far below", BAD, hand.ask(Integer.MIN_VALUE));
        due("k far above", BAD, hand.ask(Integer.MAX_VALUE));
    }

    private static void askOfNoneOneAndTwoVelvets() {
        VelvetHand hand = told("g9;c9 8 0 0;c9 9 0 0;");
        hand.tells(0, 1, 1);
        due("two VELVETS", 768, hand.soft());
        due("ask parts them", 1, hand.ask(1));
        hand.tells(1, 1, 1);
        due("one VELVET", 512, hand.soft());
        due("ask of one", NONE, hand.ask(1));
        due("BAD ahead of it", BAD, hand.ask(0));
        hand.tells(1, 1, 0);
        due("no VELVET", 0, hand.soft());
        due("ask of none", NONE, hand.ask(9));
        VelvetHand least = told("g9;c9 1 0 0;c9 2 0 0;");
        least.tells(1, 1, 0);
        due("two VELVETS, 0 and 1", 3, least.soft());
        due("the first parts them", 0, least.ask(1));
        least.tells(0, 1, 0);
        due("VELVET 0 only", NONE, least.ask(1));
    }

    private static void askOfNobody() {
        VelvetHand hand = new VelvetHand();
        due("no CALLERS", NONE, hand.ask(1));
        due("no CALLERS, most", NONE, hand.ask(9));
        due("no CALLERS, below", BAD, hand.ask(0));
        due("no CALLERS, above", BAD, hand.ask(10));
    }

    private static void askSmallestOfTheGreaterParts() {
        VelvetHand hand = told("g9;c9 1 0 0;c9 9 0 0;c9 3 0 0;c9 6 0 0;c9 4 0 0;c9 0 0 0;");
        due("of 1, 9, 3, 6, 4, 0: parts of 9, 9, 7, 6, 6, 10", 3, hand.ask(1));
        hand.tells(2, 1, 1);
        due("of 3 .. 9: parts of 7, 6, 7, 4, 6, 7", 3, hand.ask(1));
        hand.tells(3, 1, 0);
        due("of 3 .. 5: parts of 3, 3, 3, 3, 2, 3", 4, hand.ask(1));
        hand.tells(4, 1, 1);
        due("of 4, 5: none parts them, the lowest", 0, hand.ask(1));
    }

    private static void askOfSeveralTheLowest() {
        VelvetHand hand = told("g9;c30 0 0 0;c9 6 0 0;c9 4 0 0;c9 6 0 0;");
        due("parts of 6 by YIELDED and by not: the lowest", 1, hand.ask(1));
        VelvetHand alike = told("g9;" + "c9 5 0 0;".repeat(6));
        due("six alike", 0, alike.ask(1));
        VelvetHand last = told("g9;" + "c30 5 0 0;".repeat(5) + "c9 9 0 0;");
        due("the last", 5, last.ask(1));
    }

    private static void askAlsoOfWhoYieldedOrLeft() {
        VelvetHand hand = told("g9;v9;c30 30 0 0;c9 5 0 0;c8 30 0 0;");
        hand.shakes(1, 0);
        due("has YIELDED", 1, hand.caller(1, 6));
        due("is asked", 1, hand.ask(1));
        VelvetHand left = told("g9;v0;c30 30 0 0;c1 5 0 0;");
        Checks.shakeAll(left, 1, "00");
        due("has LEFT", 1, left.caller(1, 7));
        due("is asked", 1, left.ask(1));
    }

    private static void toldAnew() {
        VelvetHand hand = told("g9;c9 5 0 0;");
        hand.tells(0, 1, 1);
        hand.type('x');
        hand.embassy();
        due("a fault: it stays TOLD", velvetsFrom(5), hand.soft());
        hand.clear();
        due("read anew", 0, hand.embassy());
        due("nothing is TOLD", 0, hand.count(4));
        due("all VELVETS", 1023, hand.soft());
        due("nothing to forget", 0, hand.forget());
    }
}
