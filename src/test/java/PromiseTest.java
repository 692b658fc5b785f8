/** For each promise: ordinary inputs, the edges that the document names, wrong inputs. */
public final class PromiseTest {
    private static final int BAD = -1, STATE = -2, FULL = -3, NONE = -9;

    public static void main(String[] args) {
        aNewObject();
        type();
        clear();
        embassyTellsAll();
        embassyFaults();
        embassyBeginsAnew();
        embassyAgain();
        caller();
        rings();
        now();
        shakesPlain();
        shakesTurned();
        shakesLeave();
        shakesShut();
        opens();
        lines();
        winds();
        consoles();
        undo();
        undoOfEach();
        way();
        wayEdges();
        gain();
        tune();
        odds();
        tells();
        forget();
        soft();
        ask();
        rate();
        keepAndBack();
        count();
        trace();
        Checks.end();
    }

    private static void due(String what, long want, long got) {
        Checks.due(what, want, got);
    }

    private static VelvetHand told(String text) {
        return Checks.told(text);
    }

    private static void aNewObject() {
        VelvetHand x = new VelvetHand();
        int[] counts = {0, 4, 3, 20, 0, 0};
        for (int i = 0; i < counts.length; i++) {
            due("1: count(" + i + ")", counts[i], x.count(i));
        }
        int[] nows = {3, 0, 0, NONE, 0, 0, 0};
        for (int i = 0; i < nows.length; i++) {
            due("1: now(" + i + ")", nows[i], x.now(i));
        }
        due("1: caller", BAD, x.caller(0, 0));
        due("1: trace", 0, x.trace());
        due("1: soft", 1023, x.soft());
        due("1: back", STATE, x.back(0));
        due("1: undo", STATE, x.undo());
    }

    private static void type() {
        VelvetHand x = new VelvetHand();
        due("2: below", BAD, x.type(-1));
        due("2: above", BAD, x.type(256));
        due("2: least", 1, x.type(0));
        due("2: most", 2, x.type(255));
        for (int i = 3; i <= 120; i++) {
            due("2: letter " + i, i, x.type('c'));
        }
        due("2: full", FULL, x.type('c'));
        due("2: BAD ahead of FULL", BAD, x.type(256));
        due("2: stays", 120, x.count(5));
    }

    private static void clear() {
        VelvetHand x = new VelvetHand();
        due("3: none", 0, x.clear());
        Checks.typeAll(x, "g5;");
        due("3: three", 3, x.clear());
        due("3: empty", 0, x.count(5));
        due("3: nothing is told", 4, x.count(1));
        for (int i = 0; i < 120; i++) {
            x.type(' ');
        }
        due("3: all", 120, x.clear());
        due("3: room again", 1, x.type('g'));
    }

    private static void embassyTellsAll() {
        VelvetHand x = new VelvetHand();
        due("4: nothing is a text", 0, x.embassy());
        Checks.typeAll(x, "   ");
        due("4: blanks are none", 0, x.embassy());
        due("4: the text is empty", 0, x.count(5));
        Checks.typeAll(x, " v 0;c30 30 9 5;s60  ;g9;c1 0 0 0; ");
        due("4: items", 5, x.embassy());
        int[] counts = {2, 9, 0, 60, 0, 0};
        for (int i = 0; i < counts.length; i++) {
            due("4: count(" + i + ")", counts[i], x.count(i));
        }
        due("4: velvet now", 0, x.now(0));
        int[][] callers = {{30, 30, 9, 5}, {1, 0, 0, 0}};
        for (int c = 0; c < 2; c++) {
            for (int what = 0; what < 4; what++) {
                due("4: caller(" + c + ", " + what + ")", callers[c][what], x.caller(c, what));
            }
        }
        Checks.typeAll(x, "s1;");
        due("4: one more", 1, x.embassy());
        due("4: not told as at first", 0, x.count(0) + x.count(1) - 4 + x.count(2) - 3);
        due("4: told", 1, x.count(3));
        Checks.typeAll(x, "c1 0 0 0;c1 0 0 0;c1 0 0 0;c1 0 0 0;c1 0 0 0;c1 0 0 0;g0;v9;s1;");
        due("4: all that may be", 9, x.embassy());
    }

    private static void embassyFaults() {
        fault("x", 0);
        fault("  C1", 2);
        fault(";", 0);
        fault("5", 0);
        fault("g", 1);
        fault("g  ", 3);
        fault("g1", 2);
        fault("g1 ", 3);
        fault("gg", 1);
        fault("g;", 1);
        fault("g10;", 1);
        fault("g 100;", 2);
        fault("g09;", 1);
        fault("g00;", 1);
        fault("g1 1;", 3);
        fault("g1v1;", 2);
        fault("g1;v1;g2;", 6);
        fault("g1;v1;v2;", 6);
        fault("s1;v1;s2;", 6);
        fault("g1;;", 3);
        fault("v10;", 1);
        fault("s0;", 1);
        fault("s61;", 1);
        fault("s99999999999999999999;", 1);
        fault("s4294967297;", 1);
        fault("c0 0 0 0;", 1);
        fault("c31 0 0 0;", 1);
        fault("c1 31 0 0;", 3);
        fault("c1 0 10 0;", 5);
        fault("c1 0 0 6;", 7);
        fault("c1 0 0 ;", 7);
        fault("c1 0 0 0 0;", 9);
        fault("c1 0 0 0", 8);
        fault("c1 0 0", 6);
        fault("c1 0 00 0;", 5);
        fault("c1 0x0 0;", 4);
        fault("c1 100", 3);
        fault("c1 0 0 0;c1 0 0 0;c1 0 0 0;c1 0 0 0;c1 0 0 0;c1 0 0 0; c1 0 0 0;", 55);
        fault("g1;\tv1;", 3);
        fault("g1;" + (char) 233, 3);
        fault("g1;x g100;", 3);
        fault("g1; 7 x", 4);
    }

    private static void fault(String text, int place) {
        VelvetHand x = told("g7;c2 3 4 5;");
        x.shakes(0, 0);
        x.keep(0);
        x.tells(0, 1, 1);
        Checks.typeAll(x, text);
        due("4: fault of " + text, -10 - place, x.embassy());
        due("4: the text stays, " + text, text.length(), x.count(5));
        due("4: grip stays, " + text, 7, x.count(1));
        due("4: callers stay, " + text, 1, x.count(0));
        due("4: pride stays, " + text, 2, x.caller(0, 0));
        due("4: heart stays, " + text, 3, x.caller(0, 1));
        due("4: spring stays, " + text, 20, x.count(3));
        due("4: velvet stays, " + text, 3, x.count(2));
        due("4: now stays, " + text, 4, x.now(4) + x.now(1) - 1);
        due("4: undo stays, " + text, 1, x.now(6));
        due("4: told stays, " + text, 1, x.count(4));
        due("4: image stays, " + text, 1, x.back(0));
    }

    private static void embassyBeginsAnew() {
        VelvetHand x = told("g9;v5;s3;c1 30 4 0;c1 0 4 0;");
        x.shakes(1, 0);
        x.shakes(0, 0);
        x.shakes(0, 1);
        x.lines(8);
        x.opens();
        x.shakes(0, 0);
        x.keep(0);
        x.keep(1);
        x.tells(0, 1, 0);
        x.rate(0, 0);
        due("4: has left", 1, x.caller(0, 7));
        Checks.typeAll(x, "c1 30 4 0;c1 0 4 0;");
        due("4: anew", 2, x.embassy());
        int[] nows = {3, 0, 0, NONE, 0, 1, 0};
        for (int i = 0; i < nows.length; i++) {
            due("4: anew now(" + i + ")", nows[i], x.now(i));
        }
        for (int what = 4; what < 8; what++) {
            due("4: anew caller(0, " + what + ")", 0, x.caller(0, what));
            due("4: anew caller(1, " + what + ")", 0, x.caller(1, what));
        }
        due("4: nothing told", 0, x.count(4));
        due("4: images are gone", STATE, x.back(0));
        due("4: both", STATE, x.back(1));
        due("4: nothing can be undone", STATE, x.undo());
        due("4: the trace goes on", 1, x.trace());
    }

    private static void embassyAgain() {
        VelvetHand x = told("g9;v5;s1;c30 4 0 0;");
        x.shakes(0, 0);
        due("4: shut", 0, x.now(3));
        Checks.typeAll(x, "g8;v8;s8;c1");
        due("4: a fault", -21, x.embassy());
        due("4: cleared", 11, x.clear());
        for (int i = 0; i < 3; i++) {
            due("4: nothing is told", 0, x.embassy());
            due("4: open", NONE, x.now(3));
            due("4: callers as at first", 0, x.count(0));
            due("4: grip as at first", 4, x.count(1));
            due("4: velvet as at first", 3, x.count(2));
            due("4: spring as at first", 20, x.count(3));
        }
        Checks.typeAll(x, "g1;g2;");
        due("4: told twice", -13, x.embassy());
        x.clear();
        Checks.typeAll(x, "g2;v2;s2;");
        due("4: but once in this one", 3, x.embassy());
        VelvetHand long120 = new VelvetHand();
        Checks.typeAll(long120, "g1;" + ";".repeat(117));
        due("4: a full text", -13, long120.embassy());
        long120.clear();
        Checks.typeAll(long120, " ".repeat(117) + "g1;");
        due("4: a full text of blanks", 1, long120.embassy());
        Checks.typeAll(long120, " ".repeat(118) + "g1");
        due("4: a full text ends too early", -130, long120.embassy());
    }

    private static void caller() {
        VelvetHand x = told("g4;v3;c8 7 5 1;c1 0 0 0;");
        x.shakes(0, 0);
        int[] told = {8, 7, 5, 1, 4, 3, 0, 0, 2};
        for (int what = 0; what < told.length; what++) {
            due("5: caller(0, " + what + ")", told[what], x.caller(0, what));
        }
        x.shakes(1, 0);
        due("5: yielded", 1, x.caller(1, 6));
        due("5: c below", BAD, x.caller(-1, 0));
        due("5: c above", BAD, x.caller(2, 0));
        due("5: what below", BAD, x.caller(0, -1));
        due("5: what above", BAD, x.caller(0, 9));
        due("5: far", BAD, x.caller(Integer.MAX_VALUE, Integer.MIN_VALUE));
    }

    private static void rings() {
        VelvetHand x = told("c1 0 0 0;c1 0 0 2;c1 0 0 1;c1 0 0 2;c1 0 0 5;");
        int[] rings = {1, 2, 2, 0, 0};
        for (int c = 0; c < rings.length; c++) {
            due("5: ring of " + c, rings[c], x.caller(c, 8));
        }
        due("6: traded", 7, x.now(5));
        VelvetHand six = told("c1 0 0 3;c1 0 0 0;c1 0 0 1;c1 0 0 4;c1 0 0 5;c1 0 0 2;");
        for (int c = 0; c < 6; c++) {
            due("5: ring of six " + c, 6, six.caller(c, 8));
        }
        due("6: all traded", 63, six.now(5));
        VelvetHand tail = told("c1 0 0 1;c1 0 0 2;c1 0 0 3;c1 0 0 1;");
        due("5: wants one of a ring", 0, tail.caller(0, 8));
        due("5: of the ring", 3, tail.caller(3, 8));
        due("6: traded of it", 14, tail.now(5));
    }

    private static void now() {
        VelvetHand x = told("g5;v2;s3;c1 0 7 0;c30 30 9 5;c1 0 1 5;");
        x.shakes(0, 0);
        x.shakes(2, 0);
        x.shakes(0, 0);
        int[] nows = {2, 0, 0, 0, 8, 1, 3};
        for (int what = 0; what < nows.length; what++) {
            due("6: now(" + what + ")", nows[what], x.now(what));
        }
        due("6: below", BAD, x.now(-1));
        due("6: above", BAD, x.now(7));
    }

    private static void shakesPlain() {
        VelvetHand x = told("g4;v3;c8 7 5 0;c4 3 1 0;");
        due("7: first", 0, x.shakes(0, 0));
        due("7: bruised enough, not warm", 0, x.shakes(0, 0));
        due("7: bruised", 8, x.caller(0, 4));
        due("7: warm", 6, x.caller(0, 5));
        due("7: yields", 1, x.shakes(0, 0));
        due("7: not bruised any more", 0, x.caller(0, 4));
        due("7: not warm any more", 0, x.caller(0, 5));
        due("7: land", 5, x.now(4));
        due("7: just enough of both", 1, x.shakes(1, 0));
        due("7: shaken again", 0, x.shakes(0, 0) + x.shakes(0, 0));
        due("7: yields again", 1, x.shakes(0, 0));
        due("7: land but once", 6, x.now(4));
        due("7: plain does not hurt", 0, x.now(2));
        due("7: shaken", 7, x.now(1));
        due("7: c below", BAD, x.shakes(-1, 0));
        due("7: c above", BAD, x.shakes(2, 0));
        due("7: turned below", BAD, x.shakes(0, -1));
        due("7: turned above", BAD, x.shakes(0, 2));
        due("7: nothing changed", 7, x.now(1));
    }

    private static void shakesTurned() {
        VelvetHand x = told("g9;v3;s60;c9 9 5 0;c1 0 2 0;");
        due("7: turned", 0, x.shakes(0, 1));
        due("7: not bruised", 0, x.caller(0, 4));
        due("7: twice warm", 6, x.caller(0, 5));
        due("7: hurt by grip", 9, x.now(2));
        due("7: then plain", 1, x.shakes(0, 0));
        due("7: turned leaves unbruised", 0, x.shakes(1, 1));
        x.shakes(0, 0);
        due("7: turned last", 0, x.shakes(0, 1) - 1);
        for (int i = 0; i < 120; i++) {
            x.shakes(1, 1);
            x.winds();
        }
        due("7: hurt 999 at most", 999, x.now(2));
        due("7: warm on", 121 * 6, x.caller(1, 5));
    }

    private static void shakesLeave() {
        VelvetHand x = told("g9;v0;c8 1 5 0;c7 1 6 0;c1 3 9 0;");
        due("7: 9", 0, x.shakes(0, 0));
        due("7: 18 is pride and 10, he stays", 0, x.shakes(0, 0));
        due("7: stays", 0, x.caller(0, 7));
        due("7: 9", 0, x.shakes(1, 0));
        due("7: 18 is more than 17", 2, x.shakes(1, 0));
        due("7: left", 1, x.caller(1, 7));
        due("7: he stays bruised", 18, x.caller(1, 4));
        due("7: counts", 4, x.now(1));
        due("7: left may not be shaken", STATE, x.shakes(1, 0));
        due("7: nor turned", STATE, x.shakes(1, 1));
        due("7: BAD ahead of STATE", BAD, x.shakes(1, 2));
        x.lines(3);
        due("7: yields", 1, x.shakes(2, 0));
        x.lines(1);
        x.shakes(2, 0);
        due("7: yielded may leave", 2, x.shakes(2, 0));
        due("7: and has yielded", 1, x.caller(2, 6));
        due("7: land for ever", 9, x.now(4));
        VelvetHand y = told("g9;v9;c1 18 0 0;");
        y.shakes(0, 0);
        due("7: yields rather than leaves", 1, y.shakes(0, 0));
        due("7: has not left", 0, y.caller(0, 7));
    }

    private static void shakesShut() {
        VelvetHand x = told("g1;v1;s3;c30 30 0 0;c30 30 0 0;c2 0 0 0;");
        x.shakes(0, 0);
        x.shakes(0, 1);
        due("7: open", NONE, x.now(3));
        due("7: third", 0, x.shakes(1, 1));
        due("7: shuts on him", 1, x.now(3));
        due("7: shaken 0 times", 0, x.now(1));
        due("7: nobody is shaken", STATE, x.shakes(0, 0));
        due("7: nor he", STATE, x.shakes(1, 0));
        due("7: BAD ahead of shut", BAD, x.shakes(3, 0));
        x.opens();
        x.shakes(2, 0);
        x.shakes(0, 0);
        due("7: yields and is shut in", 1, x.shakes(2, 0));
        due("7: on him", 2, x.now(3));
        VelvetHand one = told("s1;c30 30 0 0;");
        one.shakes(0, 0);
        due("7: at once", 0, one.now(3));
        VelvetHand sixty = told("g0;s60;c30 30 0 0;");
        for (int i = 0; i < 59; i++) {
            sixty.shakes(0, 0);
        }
        due("7: 59", 59, sixty.now(1));
        sixty.shakes(0, 0);
        due("7: sixtieth", 0, sixty.now(3));
    }

    private static void opens() {
        VelvetHand x = told("s1;c30 30 0 0;c30 30 0 0;");
        due("8: open", STATE, x.opens());
        x.shakes(1, 0);
        due("8: on whom", 1, x.opens());
        due("8: is open", NONE, x.now(3));
        due("8: no more", STATE, x.opens());
        due("8: shakes again", 0, x.shakes(0, 0));
        due("8: undo of two shakes and one opening", 3, x.now(6));
    }

    private static void lines() {
        VelvetHand x = told("v3;g1;c30 30 0 0;");
        due("9: below", BAD, x.lines(-1));
        due("9: above", BAD, x.lines(10));
        due("9: is so", STATE, x.lines(3));
        due("9: till then", 3, x.lines(9));
        due("9: now", 9, x.now(0));
        due("9: as told stays", 3, x.count(2));
        x.shakes(0, 0);
        due("9: counts", 9, x.caller(0, 5));
        due("9: least", 9, x.lines(0));
        due("9: again", STATE, x.lines(0));
        due("9: undone", 3, x.now(6));
    }

    private static void winds() {
        VelvetHand x = told("g0;s3;c30 30 0 0;");
        due("10: none", STATE, x.winds());
        x.shakes(0, 0);
        x.shakes(0, 0);
        due("10: two", 2, x.winds());
        due("10: none again", STATE, x.winds());
        due("10: zero", 0, x.now(1));
        x.shakes(0, 0);
        x.shakes(0, 0);
        due("10: not shut", NONE, x.now(3));
        x.shakes(0, 0);
        due("10: shut, so none", STATE, x.winds());
    }

    private static void consoles() {
        VelvetHand x = told("g9;v1;c9 9 0 0;c7 9 0 0;");
        due("11: below", BAD, x.consoles(-1));
        due("11: above", BAD, x.consoles(2));
        due("11: is not", STATE, x.consoles(0));
        x.shakes(0, 0);
        x.shakes(0, 0);
        due("11: how far", 18, x.consoles(0));
        due("11: not bruised", 0, x.caller(0, 4));
        due("11: warm stays", 2, x.caller(0, 5));
        due("11: no more", STATE, x.consoles(0));
        x.shakes(1, 0);
        due("11: leaves", 2, x.shakes(1, 0));
        due("11: has left", STATE, x.consoles(1));
        due("11: stays bruised", 18, x.caller(1, 4));
    }

    private static void undo() {
        VelvetHand x = told("g1;v1;s60;c30 30 0 0;");
        due("12: none", STATE, x.undo());
        for (int i = 0; i < 13; i++) {
            x.shakes(0, 0);
        }
        due("12: ten are known", 10, x.now(6));
        x.shakes(0, 2);
        x.opens();
        due("12: refused ones are not", 10, x.now(6));
        for (int i = 9; i >= 0; i--) {
            due("12: left", i, x.undo());
            due("12: shaken", 3 + i, x.now(1));
            due("12: bruised", 3 + i, x.caller(0, 4));
        }
        due("12: older ones are lost", STATE, x.undo());
        x.lines(5);
        x.lines(6);
        due("12: one", 1, x.undo());
        x.lines(7);
        due("12: two again", 2, x.now(6));
        x.undo();
        due("12: none left", 0, x.undo());
        due("12: as it was", 1, x.now(0));
    }

    private static void undoOfEach() {
        VelvetHand x = told("g9;v2;s2;c5 4 3 0;c7 30 0 0;");
        x.shakes(0, 1);
        x.shakes(0, 0);
        due("12: yielded, shut", 1, x.caller(0, 6) + x.now(3));
        due("12: one more", 1, x.undo());
        due("12: not yielded", 0, x.caller(0, 6));
        due("12: open", NONE, x.now(3));
        due("12: warm again", 4, x.caller(0, 5));
        due("12: no land", 0, x.now(4));
        due("12: shaken once", 1, x.now(1));
        due("12: none more", 0, x.undo());
        due("12: not hurt", 0, x.now(2));
        due("12: not warm", 0, x.caller(0, 5));
        x.shakes(1, 0);
        x.winds();
        x.undo();
        due("12: not wound", 1, x.now(1));
        x.shakes(1, 0);
        due("12: left", 1, x.caller(1, 7));
        x.opens();
        x.undo();
        due("12: shut again", 1, x.now(3));
        x.undo();
        due("12: not left", 0, x.caller(1, 7));
        x.consoles(1);
        x.undo();
        due("12: not consoled", 9, x.caller(1, 4));
    }

    private static void ways(String what, VelvetHand x, int c, String row) {
        due(what + ": how many", row.length(), x.way(c, -1));
        for (int k = 0; k < 10; k++) {
            int want = k < row.length() ? row.charAt(k) - '0' : NONE;
            due(what + ": shake " + k, want, x.way(c, k));
        }
    }

    private static void way() {
        VelvetHand x = told("g4;v3;s1;c8 6 0 0;c4 12 0 0;c3 30 0 0;c30 30 0 0;");
        ways("13: plain", x, 0, "00");
        ways("13: plain ahead of turned", x, 1, "001");
        ways("13: six", x, 2, "001111");
        ways("13: nine, the last turned", x, 3, "000000001");
        x.shakes(1, 0);
        ways("13: as things are now, shut too", x, 1, "01");
        due("13: spring is not counted", 0, x.now(1));
        due("13: nothing is changed", 4, x.caller(1, 4));
        due("13: c", BAD, x.way(4, 0));
        due("13: c below", BAD, x.way(-1, 0));
        due("13: k below", BAD, x.way(0, -2));
        due("13: k above", BAD, x.way(0, 10));
    }

    private static void wayEdges() {
        VelvetHand x = told("g9;v0;c1 1 0 0;c9 0 0 0;c1 0 0 0;");
        due("13: none", NONE, x.way(0, -1));
        due("13: none of it", NONE, x.way(0, 0));
        ways("13: one", x, 1, "0");
        x.shakes(2, 0);
        due("13: has yielded", STATE, x.way(2, -1));
        due("13: BAD ahead of STATE", BAD, x.way(2, 10));
        x.shakes(0, 0);
        x.shakes(0, 0);
        due("13: has left", STATE, x.way(0, -1));
        x.lines(9);
        ways("13: velvet now", x, 1, "0");
        VelvetHand y = told("g3;v1;c30 10 0 0;c30 11 0 0;c27 11 0 0;c27 12 0 0;");
        ways("13: ten", y, 0, "0000000000");
        due("13: eleven are too many", NONE, y.way(1, -1));
        ways("13: the last turned", y, 2, "0000000001");
        due("13: not in ten", NONE, y.way(3, -1));
        // Two plain shakes bruise the first of these so that he leaves, but for one who yields by the second.
        VelvetHand z = told("g9;v2;c5 8 0 0;c10 9 0 0;");
        ways("13: leaving is not a way", z, 0, "010");
        ways("13: nor by a third", z, 1, "0010");
        z.shakes(0, 0);
        z.consoles(0);
        ways("13: consoled, warm", z, 0, "01");
        VelvetHand first = told("g9;v2;c1 8 0 0;");
        first.shakes(0, 0);
        ways("13: leaves by the first", first, 0, "10");
    }

    private static void gain() {
        VelvetHand x = told("g4;v3;c8 6 5 0;c4 12 7 0;c12 5 3 0;c20 20 9 0;c4 0 0 0;c30 30 9 0;");
        int[][] rows = {{0, 0, 0}, {1, 0, 0}, {2, 5, 1}, {3, 7, 2}, {4, 7, 2}, {5, 12, 3}, {6, 12, 3},
            {8, 15, 7}, {11, 21, 11}, {40, 33, 47}};
        for (int[] row : rows) {
            due("14: gain(" + row[0] + ", 0)", row[1], x.gain(row[0], 0));
            due("14: gain(" + row[0] + ", 1)", row[2], x.gain(row[0], 1));
        }
        VelvetHand same = told("g5;v5;c5 5 4 0;c5 5 4 0;c10 5 4 0;c5 0 8 0;");
        due("14: fewest shakes", 8, same.gain(1, 1));
        same.shakes(3, 0);
        due("14: not who yielded; least bits", 1, same.gain(1, 1));
        due("14: fewest shakes of much land", 3, same.gain(3, 1));
        due("14: with all", 7, same.gain(4, 1));
        due("14: one land", 12, same.gain(40, 0));
        VelvetHand alike = told("g5;v9;c15 0 8 0;c5 0 8 0;");
        due("14: of as much land fewest shakes, though more bits", 2, alike.gain(3, 1));
        VelvetHand steps = told("g5;v9;c15 0 4 0;c10 0 4 0;c5 0 4 0;");
        due("14: the shortest of two", 4, steps.gain(2, 1));
        due("14: the shortest of three, two together", 6, steps.gain(5, 1));
        VelvetHand none = told("g9;v0;c1 5 9 0;c9 0 1 0;");
        due("14: who has no way", 2, none.gain(40, 1));
        none.shakes(0, 0);
        none.shakes(0, 0);
        due("14: who left", 1, none.gain(40, 0));
        due("14: below", BAD, none.gain(-1, 0));
        due("14: above", BAD, none.gain(41, 0));
        due("14: what below", BAD, none.gain(1, -1));
        due("14: what above", BAD, none.gain(1, 2));
        due("14: of nobody", 0, new VelvetHand().gain(40, 1));
    }

    private static void tune() {
        VelvetHand x = told("g4;v3;s1;c8 6 5 1;c4 12 7 2;c12 5 3 0;c20 20 9 3;c5 0 2 5;");
        due("15: none of them", 0, x.tune(0, 1));
        due("15: the last in one", 50, x.tune(16, 1));
        due("15: all in five", 44, x.tune(31, 5));
        due("15: not all in one", NONE, x.tune(31, 1));
        due("15: not without the last", NONE, x.tune(7, 3));
        x.shakes(0, 0);
        due("15: bruised now does not matter", 50, x.tune(16, 1));
        due("15: set below", BAD, x.tune(-1, 1));
        due("15: set above", BAD, x.tune(32, 1));
        due("15: k below", BAD, x.tune(0, 0));
        due("15: k above", BAD, x.tune(0, 6));
        VelvetHand leaves = told("g9;v0;c1 0 0 0;c1 9 0 0;");
        due("15: none may leave", 11, told("c1 2 0 0;").tune(1, 2));
        due("15: yields first, does not leave", 10, leaves.tune(1, 5));
        leaves.shakes(0, 0);
        leaves.shakes(1, 0);
        leaves.shakes(1, 0);
        due("15: as if they had not", 10, leaves.tune(1, 5));
        due("15: both", 12, leaves.tune(3, 5));
        due("15: leaving is none", NONE, told("c6 30 0 0;c30 0 0 0;").tune(2, 5));
        due("15: grip 10 is none", NONE, told("c10 0 0 0;").tune(1, 1));
        due("15: velvet 10 is none", NONE, told("c1 10 0 0;").tune(1, 1));
        due("15: both the most", 99, told("c9 9 0 0;").tune(1, 1));
        due("15: nobody", 0, new VelvetHand().tune(0, 5));
        due("15: nobody there", BAD, new VelvetHand().tune(1, 5));
    }

    private static void odds() {
        VelvetHand x = told("g9;v0;c1 9 0 0;c1 9 0 0;c1 9 0 0;");
        oddsOf(x, 5, 0, 1, 8);
        oddsOf(x, 5, 1, 1, 2);
        oddsOf(x, 5, 2, 7, 8);
        oddsOf(x, 5, 3, 1, 1);
        oddsOf(x, 5, 6, 1, 1);
        oddsOf(x, 0, 0, 1, 1);
        oddsOf(x, 10, 2, 0, 1);
        oddsOf(x, 10, 3, 1, 1);
        oddsOf(x, 3, 1, 98, 125);
        oddsOf(x, 1, 0, 729, 1000);
        x.shakes(1, 0);
        x.shakes(1, 0);
        due("16: one has left", 1, x.caller(1, 7));
        oddsOf(x, 5, 0, 1, 4);
        oddsOf(x, 2, 1, 24, 25);
        VelvetHand six = told("c1 0 0 0;c1 0 0 0;c1 0 0 0;c1 0 0 0;c1 0 0 0;c1 0 0 0;");
        six.shakes(0, 0);
        oddsOf(six, 3, 0, 117649, 1000000);
        oddsOf(six, 9, 5, 468559, 1000000);
        oddsOf(new VelvetHand(), 10, 0, 1, 1);
        due("16: x below", BAD, x.odds(-1, 0, 0));
        due("16: x above", BAD, x.odds(11, 0, 0));
        due("16: k below", BAD, x.odds(0, -1, 0));
        due("16: k above", BAD, x.odds(0, 7, 0));
        due("16: what below", BAD, x.odds(0, 0, -1));
        due("16: what above", BAD, x.odds(0, 0, 2));
    }

    private static void oddsOf(VelvetHand x, int by, int k, int upper, int lower) {
        due("16: odds(" + by + ", " + k + ", 0)", upper, x.odds(by, k, 0));
        due("16: odds(" + by + ", " + k + ", 1)", lower, x.odds(by, k, 1));
    }

    private static void tells() {
        VelvetHand x = told("c1 0 0 0;");
        due("17: c", BAD, x.tells(1, 1, 0));
        due("17: c below", BAD, x.tells(-1, 1, 0));
        due("17: k below", BAD, x.tells(0, 0, 0));
        due("17: k above", BAD, x.tells(0, 10, 0));
        due("17: yielded below", BAD, x.tells(0, 1, -1));
        due("17: yielded above", BAD, x.tells(0, 1, 2));
        for (int i = 1; i <= 6; i++) {
            due("17: much", i, x.tells(0, i == 1 ? 9 : i, 1));
        }
        due("17: full", FULL, x.tells(0, 1, 1));
        due("17: BAD ahead of FULL", BAD, x.tells(0, 1, 2));
        due("17: counted", 6, x.count(4));
        x.shakes(0, 0);
        x.undo();
        due("17: not undone", 6, x.count(4));
    }

    private static void forget() {
        VelvetHand x = told("c30 30 0 0;");
        due("18: nothing", 0, x.forget());
        x.tells(0, 1, 1);
        x.tells(0, 2, 0);
        due("18: two", 2, x.forget());
        due("18: nothing told", 0, x.count(4));
        due("18: all velvets", 1023, x.soft());
        due("18: told anew", 1, x.tells(0, 1, 0));
    }

    private static void soft() {
        VelvetHand x = told("g3;v0;c6 10 0 0;c1 9 0 0;c9 4 0 0;");
        due("19: all", 1023, x.soft());
        x.tells(0, 2, 1);
        due("19: twice is 10", 0x3e0, x.soft());
        x.tells(2, 1, 0);
        due("19: never bruised enough", 0x3e0, x.soft());
        // 1 has left behind four shakes (12), so he yields only by 3 and more.
        x.tells(1, 4, 1);
        due("19: both", 0x3e0, x.soft());
        x.forget();
        x.tells(1, 9, 0);
        due("19: left is not yielded", 7, x.soft());
        x.tells(1, 9, 1);
        due("19: none", 0, x.soft());
        x.forget();
        x.tells(2, 3, 1);
        x.lines(9);
        x.shakes(2, 0);
        due("19: velvet and bruises now do not matter", 0x3fc, x.soft());
        VelvetHand heartless = told("g1;v9;c1 0 0 0;");
        heartless.tells(0, 1, 1);
        due("19: by 0, too", 1023, heartless.soft());
        VelvetHand again = told("g9;v0;c1 9 0 0;");
        // By 9 he yields at once; by 5 at the second (18 is more than 11, but he yields).
        again.tells(0, 9, 1);
        due("19: yields ahead of leaving, and is counted though he left later", 0x3e0, again.soft());
    }

    private static void ask() {
        VelvetHand x = told("g9;v0;c1 1 0 0;c1 5 0 0;c1 5 0 0;c10 6 0 0;");
        due("20: halves, lowest", 1, x.ask(1));
        x.tells(1, 1, 0);
        due("20: of 0 .. 4 by twice, two alike, the lower", 1, x.ask(2));
        due("20: of 0 .. 4 by once", 0, x.ask(1));
        x.tells(0, 1, 0);
        due("20: one at most", NONE, x.ask(1));
        x.tells(0, 1, 1);
        due("20: none", NONE, x.ask(9));
        due("20: below", BAD, x.ask(0));
        due("20: above", BAD, x.ask(10));
        due("20: no callers", NONE, new VelvetHand().ask(1));
        due("20: BAD without callers", BAD, new VelvetHand().ask(10));
        VelvetHand two = told("g9;c1 2 0 0;c1 1 0 0;");
        two.tells(0, 1, 0);
        due("20: two velvets", 3, two.soft());
        due("20: one of two", 1, two.ask(1));
        VelvetHand nobody = told("g0;c1 0 0 0;c1 0 0 0;");
        due("20: all alike, lowest", 0, nobody.ask(1));
    }

    private static void rate() {
        VelvetHand x = told("g4;v3;c30 30 0 0;c30 30 7 0;");
        x.shakes(1, 0);
        x.shakes(1, 1);
        x.shakes(1, 1);
        int[] rates = {7, 22, 3, 44, 4, 15};
        long[] traces = {1, 11, 101, 1011, 10101, 100001};
        long all = 0;
        for (int kind = 0; kind < rates.length; kind++) {
            due("21: rate of kind " + kind, rates[kind], x.rate(kind, 1));
            all += traces[kind];
            due("25: trace of kind " + kind, all, x.trace());
        }
        x.shakes(0, 0);
        due("21: below 0", -4, x.rate(2, 0));
        due("21: envoy 0", -4, x.rate(4, 0));
        all = x.trace();
        due("21: kind below", VelvetHand.NO, x.rate(-1, 0));
        due("21: kind above", VelvetHand.NO, x.rate(6, 0));
        due("21: c below", VelvetHand.NO, x.rate(0, -1));
        due("21: c above", VelvetHand.NO, x.rate(0, 2));
        due("25: nothing is added", all, x.trace());
    }

    private static void keepAndBack() {
        VelvetHand x = told("g9;v2;s2;c5 4 3 0;c7 30 1 0;c9 2 2 0;");
        due("22: below", BAD, x.keep(-1));
        due("22: above", BAD, x.keep(2));
        due("23: below", BAD, x.back(-1));
        due("23: above", BAD, x.back(2));
        due("23: not kept", STATE, x.back(1));
        x.shakes(0, 1);
        due("22: none yielded", 0, x.keep(0));
        due("23: the other was not kept", STATE, x.back(1));
        due("23: refused, undo stays", 1, x.now(6));
        x.shakes(0, 0);
        due("22: one yielded", 1, x.keep(1));
        x.opens();
        x.shakes(1, 0);
        x.shakes(2, 0);
        x.lines(7);
        x.opens();
        x.shakes(1, 0);
        x.tells(0, 1, 1);
        due("22: left", 1, x.caller(1, 7));
        due("23: none yielded", 0, x.back(0));
        int[] nows = {2, 1, 9, NONE, 0, 1, 0};
        for (int what = 0; what < nows.length; what++) {
            due("23: now(" + what + ")", nows[what], x.now(what));
        }
        due("23: warm again", 4, x.caller(0, 5));
        due("23: not bruised", 0, x.caller(1, 4));
        due("23: not left", 0, x.caller(1, 7));
        due("23: nothing can be undone", STATE, x.undo());
        due("23: told stays", 1, x.count(4));
        due("23: the other", 1, x.back(1));
        due("23: shut on 0", 0, x.now(3));
        due("23: land", 3, x.now(4));
        x.opens();
        x.shakes(2, 0);
        due("22: kept anew", 2, x.keep(1));
        due("23: an image stays", 0, x.back(0));
        due("23: of the new one", 2, x.back(1));
        due("23: and again", 2, x.back(1));
        due("22: keep can't be undone", STATE, x.undo());
        x.winds();
        x.keep(0);
        due("22: undo stays behind keep", 1, x.now(6));
    }

    private static void count() {
        VelvetHand x = told("g1;v2;s30;c1 0 0 0;c1 0 0 0;");
        x.lines(8);
        x.tells(1, 1, 0);
        Checks.typeAll(x, "abc");
        int[] counts = {2, 1, 2, 30, 1, 3};
        for (int what = 0; what < counts.length; what++) {
            due("24: count(" + what + ")", counts[what], x.count(what));
        }
        due("24: below", BAD, x.count(-1));
        due("24: above", BAD, x.count(6));
    }

    private static void trace() {
        VelvetHand x = told("c1 0 3 0;");
        x.keep(0);
        x.shakes(0, 1);
        x.rate(3, 0);
        due("25: once up", 1011, x.trace());
        x.undo();
        due("25: goes on behind undo", 1011, x.trace());
        x.back(0);
        due("25: goes on behind back", 1011, x.trace());
        x.embassy();
        due("25: goes on behind embassy", 1011, x.trace());
        for (int i = 0; i < 450; i++) {
            x.trace();
        }
        due("25: asks nothing", 1011, x.trace());
    }
}
