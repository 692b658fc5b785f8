import java.util.function.Consumer;

/** Each edge that the document names of what is done: Terms 2, promises 5 to 12. */
public final class EdgeShakesTest {
    private static final int NONE = Checks.NONE, STATE = Checks.STATE, BAD = Checks.BAD;
    private static final String STUBBORN = "c30 30 1 0;";

    public static void main(String[] args) {
        nobodyIsAnythingAtFirst();
        callersFromFirstToLast();
        nowFromFirstToLast();
        bruisedAndWarmByEachGripAndVelvet();
        hurtIs999AtMost();
        hurtIsUndoneFrom999();
        plainHurtsNothing();
        yieldsAtJustPrideAndHeart();
        yieldsByATurnedShake();
        yieldsByHeartNone();
        yieldsAgain();
        leavesBeyondPrideAndTen();
        leavesAtEachPride();
        yieldsRatherThanLeaves();
        yieldedMayLeave();
        whoLeftIsNotShaken();
        gripNoneNeverBruises();
        shutsAtEachSpring();
        shutsByEachAnswer();
        shutTillOpened();
        openedIsCountedFromNone();
        linedFrom0To9();
        woundFromNoneToLast();
        consoledFromNone();
        consoledAlsoWhileShut();
        undoneFromNoneToTen();
        undoneOfEachKind();
        undoneRoundAndRound();
        refusedIsNotUndone();
        warmWithoutEnd();
        fiveHundredAndTwelveCalls();
        Checks.end();
    }

    private static void due(String what, long want, long got) {
        Checks.due(what, want, got);
    }

    private static VelvetHand told(String text) {
        return Checks.told(text);
    }

    private static void nobodyIsAnythingAtFirst() {
        VelvetHand hand = told(STUBBORN + STUBBORN + STUBBORN + STUBBORN + STUBBORN + "c1 0 9 0;");
        for (int c = 0; c < 6; c++) {
            due("not BRUISED at first", 0, hand.caller(c, 4));
            due("not WARM at first", 0, hand.caller(c, 5));
            due("has not YIELDED at first, though his HEART is 0", 0, hand.caller(c, 6));
            due("has not LEFT at first", 0, hand.caller(c, 7));
        }
        due("SHAKEN 0 times", 0, hand.now(1));
        due("HURT 0", 0, hand.now(2));
        due("open", NONE, hand.now(3));
        due("no LAND is had", 0, hand.now(4));
        due("nothing may be UNDONE", 0, hand.now(6));
    }

    private static void callersFromFirstToLast() {
        String text = "";
        for (int callers = 0; callers <= 6; callers++) {
            VelvetHand hand = told("s60;" + text);
            for (int c = -2; c <= 7; c++) {
                boolean there = c >= 0 && c < callers;
                due("PRIDE of " + c + " of " + callers, there ? c + 11 : BAD, hand.caller(c, 0));
                due("RING of " + c + " of " + callers, there ? c == 0 ? 1 : 0 : BAD, hand.caller(c, 8));
                due("shakes of " + c + " of " + callers, there ? 0 : BAD, hand.shakes(c, 0));
                due("way of " + c + " of " + callers, there ? c < 2 ? 2 : 3 : BAD, hand.way(c, -1));
                due("consoles of " + c + " of " + callers, there ? 4 : BAD, hand.consoles(c));
                due("rate of " + c + " of " + callers, there ? 1 : Checks.NO, hand.rate(0, c));
            }
            due("only those there were shaken", callers, hand.now(1));
            text += "c" + (callers + 11) + " 0 1 0;";
        }
        VelvetHand hand = told(STUBBORN);
        due("what below", BAD, hand.caller(0, -1));
        due("what least", 30, hand.caller(0, 0));
        due("what most", 1, hand.caller(0, 8));
        due("what above", BAD, hand.caller(0, 9));
        due("both wrong", BAD, hand.caller(1, 9));
    }

    private static void nowFromFirstToLast() {
        VelvetHand hand = told("v7;" + STUBBORN);
        due("what below", BAD, hand.now(-1));
        due("what least", 7, hand.now(0));
        due("what most", 0, hand.now(6));
        due("what above", BAD, hand.now(7));
    }

    private static void bruisedAndWarmByEachGripAndVelvet() {
        for (int grip = 0; grip <= 9; grip++) {
            for (int velvet = 0; velvet <= 9; velvet++) {
                VelvetHand hand = told("g" + grip + ";v" + velvet + ";" + STUBBORN);
                String what = "grip " + grip + ", velvet " + velvet;
                due(what + ": PLAIN", 0, hand.shakes(0, 0));
                due(what + ": BRUISED by GRIP", grip, hand.caller(0, 4));
                due(what + ": WARM by VELVET", velvet, hand.caller(0, 5));
                due(what + ": not HURT", 0, hand.now(2));
                due(what + ": TURNED", 0, hand.shakes(0, 1));
                due(what + ": BRUISED no more", grip, hand.caller(0, 4));
                due(what + ": WARM by twice VELVET more", 3 * velvet, hand.caller(0, 5));
                due(what + ": HURT by GRIP", grip, hand.now(2));
                due(what + ": PLAIN once more", 0, hand.shakes(0, 0));
                due(what + ": BRUISED more", 2 * grip, hand.caller(0, 4));
                due(what + ": WARM more", 4 * velvet, hand.caller(0, 5));
            }
        }
        VelvetHand hand = told(STUBBORN);
        due("turned below", BAD, hand.shakes(0, -1));
        due("turned above", BAD, hand.shakes(0, 2));
        due("both wrong", BAD, hand.shakes(1, 2));
        due("not SHAKEN", 0, hand.now(1));
    }

    private static void hurtIs999AtMost() {
        for (int grip = 3; grip <= 9; grip++) {
            VelvetHand hand = told("g" + grip + ";s60;" + STUBBORN);
            for (int shakes = 1; grip * (shakes - 1) <= 999 + grip; shakes++) {
                Checks.shakeAll(hand, 0, "1");
                if (shakes % 9 == 0 || grip * shakes > 980) {
                    due("HURT by " + shakes + " times " + grip, Math.min(999, shakes * grip), hand.now(2));
                }
            }
            due("no plain one heals or hurts", 999, Checks.shakeAll(hand, 0, "0") + hand.now(2));
            due("BRUISED by the plain one only", grip, hand.caller(0, 4));
            due("NUN rates it", 1000, hand.rate(5, 0));
        }
    }

    private static void hurtIsUndoneFrom999() {
        VelvetHand hand = told("g7;s60;" + STUBBORN);
        Checks.shakeAll(hand, 0, "1".repeat(142));
        due("142 times 7", 994, hand.now(2));
        Checks.shakeAll(hand, 0, "111");
        due("three more", 999, hand.now(2));
        hand.undo();
        due("two more", 999, hand.now(2));
        hand.undo();
        due("one more", 999, hand.now(2));
        hand.undo();
        due("as it was", 994, hand.now(2));
    }

    private static void plainHurtsNothing() {
        VelvetHand hand = told("g9;v9;s60;c30 30 0 0;");
        Checks.shakeAll(hand, 0, "0000");
        due("PLAIN: not HURT", 0, hand.now(2));
        VelvetHand none = told("g0;" + STUBBORN);
        Checks.shakeAll(none, 0, "1111");
        due("TURNED by GRIP 0: not HURT", 0, none.now(2));
    }

    private static void yieldsAtJustPrideAndHeart() {
        for (int pride = 1; pride <= 30; pride++) {
            for (int heart = 0; heart <= 30; heart += pride % 3 + 1) {
                VelvetHand hand = told("g3;v2;s60;c" + pride + " " + heart + " 4 0;");
                int shakes = Math.max((pride + 2) / 3, (heart + 1) / 2);
                String what = "PRIDE " + pride + ", HEART " + heart;
                for (int i = 1; i < shakes && 3 * i <= pride + 10; i++) {
                    due(what + ": not by " + i, 0, hand.shakes(0, 0));
                    due(what + ": no LAND", 0, hand.now(4));
                }
                boolean stays = 3 * (shakes - 1) <= pride + 10;
                due(what + ": by the last", stays ? 1 : 2, hand.shakes(0, 0));
                due(what + ": LAND is had", stays ? 4 : 0, hand.now(4));
            }
        }
        VelvetHand hand = told("g5;v5;c5 5 1 0;c6 5 2 0;c5 6 4 0;");
        due("just both", 1, hand.shakes(0, 0));
        due("not BRUISED any more", 0, hand.caller(0, 4));
        due("not WARM any more", 0, hand.caller(0, 5));
        due("BRUISED one too little", 0, hand.shakes(1, 0));
        due("BRUISED stays", 5, hand.caller(1, 4));
        due("WARM one too little", 0, hand.shakes(2, 0));
        due("WARM stays", 5, hand.caller(2, 5));
        due("LAND of the first only", 1, hand.now(4));
    }

    private static void yieldsByATurnedShake() {
        VelvetHand hand = told("g5;v3;c5 9 1 0;c5 10 1 0;c6 0 1 0;");
        due("plain", 0, hand.shakes(0, 0));
        due("turned, just WARM enough", 1, hand.shakes(0, 1));
        due("plain", 0, hand.shakes(1, 0));
        due("turned, WARM by one too little", 0, hand.shakes(1, 1));
        due("plain", 0, hand.shakes(2, 0));
        due("turned, BRUISED by one too little", 0, hand.shakes(2, 1));
        due("each is HURT", 15, hand.now(2));
    }

    private static void yieldsByHeartNone() {
        VelvetHand hand = told("g1;v0;c1 0 0 0;c2 0 0 0;c1 1 0 0;");
        due("HEART 0, never WARM", 1, hand.shakes(0, 0));
        due("turned, PRIDE is left", 0, hand.shakes(0, 1));
        due("PRIDE 2", 0, hand.shakes(1, 0));
        due("PRIDE 2, twice", 1, hand.shakes(1, 0));
        due("HEART 1, never WARM", 0, hand.shakes(2, 0));
    }

    private static void yieldsAgain() {
        VelvetHand hand = told("g5;v5;s60;c5 5 9 0;c5 5 8 0;");
        for (int i = 0; i < 6; i++) {
            due("YIELDS again", 1, hand.shakes(0, 0));
            due("LAND but once", 9, hand.now(4));
            due("has YIELDED: 1, not more", 1, hand.caller(0, 6));
        }
        hand.shakes(0, 1);
        due("has YIELDED for ever", 1, hand.caller(0, 6));
        due("WARM again", 10, hand.caller(0, 5));
        hand.shakes(1, 0);
        due("LAND of both", 17, hand.now(4));
        due("keep counts each once", 2, hand.keep(0));
        VelvetHand all = told("g5;v5;" + "c5 5 9 0;".repeat(6));
        for (int c = 0; c < 6; c++) {
            due("LAND of all till then", 9 * c, all.now(4));
            all.shakes(c, 0);
        }
        due("most LAND", 54, all.now(4));
        due("most who YIELDED", 6, all.keep(1));
    }

    private static void leavesBeyondPrideAndTen() {
        VelvetHand hand = told("g9;v0;c8 1 0 0;c7 1 0 0;");
        Checks.shakeAll(hand, 0, "0");
        due("BRUISED by PRIDE and 10", 0, hand.shakes(0, 0));
        due("has not LEFT", 0, hand.caller(0, 7));
        Checks.shakeAll(hand, 1, "0");
        due("BRUISED by one more", 2, hand.shakes(1, 0));
        due("has LEFT", 1, hand.caller(1, 7));
        due("turned does not bruise him away", 0, hand.shakes(0, 1));
        due("he leaves by the next plain one", 2, hand.shakes(0, 0));
        due("BRUISED as he left", 27, hand.caller(0, 4));
        due("WARM as he left", 0, hand.caller(0, 5));
        due("no LAND of those", 0, hand.now(4));
    }

    private static void leavesAtEachPride() {
        for (int pride = 1; pride <= 30; pride++) {
            for (int grip = 1; grip <= 9; grip += 4) {
                VelvetHand hand = told("g" + grip + ";v0;s60;c" + pride + " 1 3 0;");
                String what = "PRIDE " + pride + ", GRIP " + grip;
                int stays = (pride + 10) / grip;
                due(what + ": stays", 0, Checks.shakeAll(hand, 0, "0".repeat(stays)));
                due(what + ": has not LEFT", 0, hand.caller(0, 7));
                due(what + ": leaves", 2, Checks.shakeAll(hand, 0, "0"));
                due(what + ": has LEFT", 1, hand.caller(0, 7));
                due(what + ": BRUISED", grip * (stays + 1), hand.caller(0, 4));
            }
        }
    }

    private static void yieldsRatherThanLeaves() {
        VelvetHand hand = told("g9;v4;c1 8 5 0;c1 9 6 0;");
        Checks.shakeAll(hand, 0, "0");
        due("BRUISED by 18, just WARM enough", 1, hand.shakes(0, 0));
        due("has not LEFT", 0, hand.caller(0, 7));
        Checks.shakeAll(hand, 1, "0");
        due("BRUISED by 18, WARM by one too little", 2, hand.shakes(1, 0));
        due("LAND of the first", 5, hand.now(4));
    }

    private static void yieldedMayLeave() {
        VelvetHand hand = told("g9;v4;c1 4 5 0;");
        due("yields", 1, hand.shakes(0, 0));
        hand.lines(0);
        hand.shakes(0, 0);
        due("leaves", 2, hand.shakes(0, 0));
        due("has YIELDED", 1, hand.caller(0, 6));
        due("has LEFT", 1, hand.caller(0, 7));
        due("LAND for ever", 5, hand.now(4));
        hand.undo();
        due("has not LEFT when that is undone", 0, hand.caller(0, 7));
        due("but YIELDED", 1, hand.caller(0, 6));
    }

    private static void whoLeftIsNotShaken() {
        Consumer<VelvetHand> steps = hand -> Checks.shakeAll(hand, 1, "00");
        String text = "g9;v0;c1 1 1 0;c1 1 2 1;";
        Checks.changesNothing("plain of one who LEFT", text, steps, STATE, hand -> hand.shakes(1, 0));
        Checks.changesNothing("turned of one who LEFT", text, steps, STATE, hand -> hand.shakes(1, 1));
        Checks.changesNothing("BAD ahead of STATE", text, steps, BAD, hand -> hand.shakes(1, 2));
        Checks.changesNothing("consoles of one who LEFT", text, steps, STATE, hand -> hand.consoles(1));
        VelvetHand hand = told(text);
        steps.accept(hand);
        due("others are SHAKEN", 0, hand.shakes(0, 0));
    }

    private static void gripNoneNeverBruises() {
        VelvetHand hand = told("g0;v0;s60;c1 0 0 0;");
        due("never BRUISED", 0, Checks.shakeAll(hand, 0, "0".repeat(100)));
        due("never BRUISED enough", 0, hand.caller(0, 4));
        due("consoles of one not BRUISED", STATE, hand.consoles(0));
        due("no way", NONE, hand.way(0, -1));
    }

    private static void shutsAtEachSpring() {
        for (int spring = 1; spring <= 60; spring++) {
            VelvetHand hand = told("g0;s" + spring + ";" + STUBBORN + STUBBORN);
            for (int i = 1; i < spring; i++) {
                hand.shakes(i % 2, i % 2);
            }
            due("SHAKEN one time less than SPRING " + spring, spring - 1, hand.now(1));
            due("open", NONE, hand.now(3));
            due("opens of an open one", STATE, hand.opens());
            due("that is SPRING times", 0, hand.shakes(1, spring % 2));
            due("SHUTS on him", 1, hand.now(3));
            due("SHAKEN 0 times", 0, hand.now(1));
            due("nobody is SHAKEN", STATE, hand.shakes(0, 0));
            due("OPENED", 1, hand.opens());
            due("open again", NONE, hand.now(3));
        }
        VelvetHand hand = told(STUBBORN);
        due("SPRING 20 at first: 19", 0, Checks.shakeAll(hand, 0, "1".repeat(19)) + hand.opens() - STATE);
        hand.shakes(0, 1);
        due("SPRING 20 at first: 20", 0, hand.now(3));
    }

    private static void shutsByEachAnswer() {
        String text = "g9;v4;s2;c1 4 5 0;c1 9 1 0;c30 30 1 0;";
        VelvetHand hand = told(text);
        hand.shakes(2, 0);
        due("YIELDS", 1, hand.shakes(0, 0));
        due("shut on one who YIELDED", 0, hand.now(3));
        hand.opens();
        hand.shakes(1, 0);
        due("leaves", 2, hand.shakes(1, 0));
        due("shut on one who LEFT", 1, hand.now(3));
        due("opened of one who LEFT", 1, hand.opens());
        hand.shakes(2, 0);
        due("neither", 0, hand.shakes(2, 1));
        due("shut on one who did neither", 2, hand.now(3));
        VelvetHand six = told("s1;" + STUBBORN.repeat(6));
        for (int c = 0; c < 6; c++) {
            due("shaken once", 0, six.shakes(c, 0));
            due("shut on each", c, six.now(3));
            due("opened on each", c, six.opens());
        }
    }

    private static void shutTillOpened() {
        String text = "g5;v5;s1;" + STUBBORN + STUBBORN;
        Consumer<VelvetHand> shut = hand -> hand.shakes(1, 0);
        for (int turned = 0; turned < 2; turned++) {
            int t = turned;
            Checks.changesNothing("shaken while SHUT", text, shut, STATE, hand -> hand.shakes(0, t));
            Checks.changesNothing("he, too", text, shut, STATE, hand -> hand.shakes(1, t));
        }
        Checks.changesNothing("BAD ahead of SHUT, c", text, shut, BAD, hand -> hand.shakes(2, 0));
        Checks.changesNothing("BAD ahead of SHUT, turned", text, shut, BAD, hand -> hand.shakes(0, 2));
        VelvetHand hand = told(text);
        shut.accept(hand);
        due("LINED while SHUT", 5, hand.lines(6));
        due("CONSOLED while SHUT", 5, hand.consoles(1));
        due("still SHUT", 1, hand.now(3));
        due("not WOUND while SHUT: 0 times", STATE, hand.winds());
        due("UNDONE while SHUT", 2, hand.undo());
        hand.undo();
        due("SHUT till then", 1, hand.now(3));
        hand.undo();
        due("not SHUT ahead of it", NONE, hand.now(3));
    }

    private static void openedIsCountedFromNone() {
        VelvetHand hand = told("s3;" + STUBBORN);
        due("opens at first", STATE, hand.opens());
        for (int round = 0; round < 8; round++) {
            for (int i = 1; i <= 2; i++) {
                hand.shakes(0, 1);
                due("SHAKEN in round " + round, i, hand.now(1));
            }
            hand.shakes(0, 1);
            due("SHUT in round " + round, 0, hand.now(3));
            due("OPENED in round " + round, 0, hand.opens());
            due("but once", STATE, hand.opens());
        }
    }

    private static void linedFrom0To9() {
        for (int n = 0; n <= 9; n++) {
            VelvetHand hand = told("v" + n + ";g0;s60;" + STUBBORN);
            due("it is so", STATE, hand.lines(n));
            for (int m = 9; m >= 0; m--) {
                int before = hand.now(0);
                due("LINED " + m + " from " + before, m == before ? STATE : before, hand.lines(m));
                due("VELVET is " + m, m, hand.now(0));
                due("VELVET as told stays", n, hand.count(2));
            }
            hand.lines(9 - n);
            hand.shakes(0, 0);
            due("WARM by VELVET now", 9 - n, hand.caller(0, 5));
        }
        VelvetHand hand = told("v9;");
        due("below", BAD, hand.lines(-1));
        due("above", BAD, hand.lines(10));
        due("far above", BAD, hand.lines(Integer.MAX_VALUE));
        due("stays", 9, hand.now(0));
        due("least", 9, hand.lines(0));
        due("most", 0, hand.lines(9));
    }

    private static void woundFromNoneToLast() {
        for (int shakes = 0; shakes <= 60; shakes++) {
            VelvetHand hand = told("g0;s60;" + STUBBORN);
            Checks.shakeAll(hand, 0, "0".repeat(shakes));
            boolean none = shakes % 60 == 0;
            due("WOUND behind " + shakes, none ? STATE : shakes, hand.winds());
            due("SHAKEN 0 times", 0, hand.now(1));
            due("WOUND again", STATE, hand.winds());
            due("SHUT stays", shakes == 60 ? 0 : NONE, hand.now(3));
        }
        VelvetHand hand = told("s2;" + STUBBORN);
        for (int i = 0; i < 20; i++) {
            due("SHAKEN", 0, hand.shakes(0, 1));
            due("WOUND, so it never SHUTS", 1, hand.winds());
        }
        hand.shakes(0, 1);
        hand.shakes(0, 1);
        due("not WOUND, so it SHUTS", 0, hand.now(3));
    }

    private static void consoledFromNone() {
        VelvetHand hand = told("g1;v1;s60;c30 30 0 0;c1 0 0 0;c1 30 0 0;");
        due("not BRUISED", STATE, hand.consoles(0));
        hand.shakes(0, 1);
        due("WARM only", STATE, hand.consoles(0));
        hand.shakes(0, 0);
        due("BRUISED by 1", 1, hand.consoles(0));
        due("not any more", 0, hand.caller(0, 4));
        due("WARM stays", 3, hand.caller(0, 5));
        due("not again", STATE, hand.consoles(0));
        hand.shakes(1, 0);
        due("who YIELDED is not BRUISED", STATE, hand.consoles(1));
        Checks.shakeAll(hand, 2, "0".repeat(11));
        due("BRUISED by PRIDE and 10", 11, hand.consoles(2));
        Checks.shakeAll(hand, 2, "0".repeat(11));
        due("from 0 again", 0, hand.caller(2, 7));
        due("leaves by one more", 2, hand.shakes(2, 0));
        due("who LEFT is not CONSOLED", STATE, hand.consoles(2));
        due("below", BAD, hand.consoles(-1));
        due("above", BAD, hand.consoles(3));
        VelvetHand proud = told("g1;v0;s60;c30 1 0 0;");
        Checks.shakeAll(proud, 0, "0".repeat(40));
        due("BRUISED most", 40, proud.consoles(0));
    }

    private static void consoledAlsoWhileShut() {
        VelvetHand hand = told("g9;v0;s2;c1 1 0 0;c30 30 0 0;");
        hand.shakes(1, 0);
        hand.shakes(1, 0);
        due("on whom it is SHUT", 18, hand.consoles(1));
        due("still SHUT on him", 1, hand.now(3));
        hand.undo();
        due("BRUISED again", 18, hand.caller(1, 4));
        due("SHUT as ahead of it", 1, hand.now(3));
    }

    private static void undoneFromNoneToTen() {
        for (int acts = 0; acts <= 23; acts++) {
            VelvetHand hand = told("v0;g1;s60;" + STUBBORN);
            Checks.shakeAll(hand, 0, "0".repeat(acts));
            int known = Math.min(10, acts);
            due("known of " + acts, known, hand.now(6));
            for (int more = known - 1; more >= 0; more--) {
                due("more behind undo", more, hand.undo());
                due("now", more, hand.now(6));
                due("BRUISED as then", acts - known + more, hand.caller(0, 4));
                due("SHAKEN as then", acts - known + more, hand.now(1));
            }
            due("none of " + acts, STATE, hand.undo());
            due("older ones are lost", acts - known, hand.caller(0, 4));
        }
    }

    private static void undoneOfEachKind() {
        VelvetHand hand = told("g9;v3;s3;c1 3 7 0;c7 30 2 0;");
        due("YIELDS", 1, hand.shakes(0, 0));
        due("once more may be", 0, hand.undo());
        due("no LAND", 0, hand.now(4));
        hand.shakes(1, 0);
        hand.shakes(1, 1);
        due("leaves and SHUTS", 2, hand.shakes(1, 0));
        due("two more", 2, hand.undo());
        due("has not LEFT", 0, hand.caller(1, 7));
        due("open", NONE, hand.now(3));
        due("SHAKEN twice", 2, hand.now(1));
        due("HURT", 9, hand.now(2));
        due("WARM", 9, hand.caller(1, 5));
        due("one more", 1, hand.undo());
        due("not HURT", 0, hand.now(2));
        hand.winds();
        due("WOUND, undone", 1, hand.undo());
        due("SHAKEN once", 1, hand.now(1));
        hand.consoles(1);
        due("CONSOLED, undone", 1, hand.undo());
        due("BRUISED", 9, hand.caller(1, 4));
        hand.lines(9);
        due("LINED, undone", 1, hand.undo());
        due("VELVET", 3, hand.now(0));
        hand.shakes(0, 0);
        hand.shakes(0, 0);
        due("SHUT", 0, hand.now(3));
        hand.opens();
        due("OPENED, undone", 3, hand.undo());
        due("SHUT on him again", 0, hand.now(3));
        due("nobody is SHAKEN", STATE, hand.shakes(1, 0));
    }

    private static void undoneRoundAndRound() {
        VelvetHand hand = told("v0;g0;s60;" + STUBBORN);
        int velvet = 0;
        for (int round = 0; round < 9; round++) {
            for (int i = 0; i < 7; i++) {
                velvet = (velvet + 1) % 10;
                hand.lines(velvet);
            }
            for (int i = 0; i < 4; i++) {
                hand.undo();
                velvet = (velvet + 9) % 10;
                due("VELVET in round " + round, velvet, hand.now(0));
            }
            due("known in round " + round, Math.min(6, 3 * (round + 1)), hand.now(6));
        }
        for (int more = 5; more >= 0; more--) {
            due("more", more, hand.undo());
            velvet = (velvet + 9) % 10;
            due("VELVET", velvet, hand.now(0));
        }
        due("none", STATE, hand.undo());
    }

    private static void refusedIsNotUndone() {
        VelvetHand hand = told("g9;v3;s2;c1 30 0 0;c30 30 0 0;");
        hand.shakes(1, 1);
        int before = hand.now(6);
        hand.shakes(0, 2);
        hand.shakes(2, 0);
        hand.opens();
        hand.lines(3);
        hand.lines(10);
        hand.consoles(1);
        hand.consoles(2);
        due("nothing more may be UNDONE", before, hand.now(6));
        hand.keep(0);
        hand.tells(0, 1, 1);
        hand.forget();
        hand.rate(5, 0);
        hand.type('g');
        hand.clear();
        due("nor by other calls", before, hand.now(6));
        hand.shakes(0, 0);
        hand.shakes(0, 0);
        hand.winds();
        due("nor when SHUT", 2, hand.now(6));
        due("one more", 1, hand.undo());
    }

    private static void warmWithoutEnd() {
        VelvetHand hand = told("g0;v9;s60;" + STUBBORN);
        Checks.shakeAll(hand, 0, "1".repeat(200));
        due("WARM by 200 turned shakes", 3600, hand.caller(0, 5));
        due("COUNT rates it", 3601, hand.rate(1, 0));
        due("NUNCIO rates it", 7202, hand.rate(3, 0));
    }

    private static void fiveHundredAndTwelveCalls() {
        VelvetHand hand = told("g1;v0;s60;c30 1 9 0;");
        int calls = "g1;v0;s60;c30 1 9 0;".length() + 1;
        int shakes = 0;
        for (; calls < 511; calls++) {
            if (calls % 50 == 0) {
                hand.winds();
            } else {
                due("shake " + shakes, 0, hand.shakes(0, 1));
                shakes++;
            }
        }
        due("the 512th call", shakes, hand.now(2));
    }
}
