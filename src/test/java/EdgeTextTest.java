import java.util.List;
import java.util.function.ToIntFunction;

/** Each edge that the document names of the text and what it tells: Terms 1, promises 1 to 4. */
public final class EdgeTextTest {
    private static final String FIVE = "c1 0 0 0;c1 0 0 0;c1 0 0 0;c1 0 0 0;c1 0 0 0;";
    private static final String SIX = FIVE + "c1 0 0 0;";
    private static final int BLANK = 32;

    public static void main(String[] args) {
        asAtFirst();
        eachNumberFromItsLeastToItsMost();
        eachNumberOfTheSixthCaller();
        noneToSixCallers();
        wantsOneWhoIsNotThereOrHimself();
        lettersFrom0To255();
        noneTo120Letters();
        clearedEmptyAndFull();
        textsOf120Letters();
        blanksAnywhereAndAnyNumber();
        blanksNeededBetweenNumbersOnly();
        onlyTheBlankIsBlank();
        noItemsAtAll();
        eachItemIsEnded();
        onceAtMostEach();
        eachLetterWhereAnItemMayBegin();
        eachLetterWhereANumberIsDue();
        eachLetterWhereTheEndIsDue();
        eachLetterBetweenNumbers();
        numbersAbove99();
        zerosAheadOfOthers();
        numbersThatWouldWrapAround();
        tooFewNumbersAndTooMany();
        endsTooEarly();
        firstFaultOfSeveral();
        aFaultChangesNothing();
        toldAnewFromFullToEmpty();
        toldAnewAsANewOne();
        nothingOfAnEarlierText();
        Checks.end();
    }

    private static void due(String what, long want, long got) {
        Checks.due(what, want, got);
    }

    private static VelvetHand taken(String what, String text, int items) {
        VelvetHand hand = new VelvetHand();
        Checks.typeAll(hand, text);
        due(what + ": items of '" + text + "'", items, hand.embassy());
        due(what + ": the text is empty behind '" + text + "'", 0, hand.count(5));
        return hand;
    }

    private static void fault(String what, String text, int place) {
        VelvetHand hand = new VelvetHand();
        Checks.typeAll(hand, text);
        due(what + ": fault of '" + text + "'", -10 - place, hand.embassy());
        due(what + ": the text stays, '" + text + "'", text.length(), hand.count(5));
        due(what + ": no caller comes of '" + text + "'", 0, hand.count(0));
        due(what + ": grip, velvet, spring stay, '" + text + "'", 43020,
            10000 * hand.count(1) + 1000 * hand.count(2) + hand.count(3));
    }

    private static void asAtFirst() {
        VelvetHand hand = new VelvetHand();
        due("GRIP 4 at first", 4, hand.count(1));
        due("VELVET 3 at first", 3, hand.count(2));
        due("VELVET now 3 at first", 3, hand.now(0));
        due("SPRING 20 at first", 20, hand.count(3));
        due("no CALLERS", 0, hand.count(0));
        due("THE TEXT is empty", 0, hand.count(5));
        VelvetHand one = taken("what is not told", "c1 0 0 0;", 1);
        due("GRIP as at first", 4, one.count(1));
        due("VELVET as at first", 3, one.count(2));
        due("SPRING as at first", 20, one.count(3));
    }

    private static void eachNumberFromItsLeastToItsMost() {
        range("GRIP", "g", ";", 0, 9, hand -> hand.count(1));
        range("VELVET", "v", ";", 0, 9, hand -> hand.count(2));
        range("VELVET now", "v", ";", 0, 9, hand -> hand.now(0));
        range("SPRING", "s", ";", 1, 60, hand -> hand.count(3));
        range("PRIDE", "c", " 0 0 0;", 1, 30, hand -> hand.caller(0, 0));
        range("HEART", "c1 ", " 0 0;", 0, 30, hand -> hand.caller(0, 1));
        range("LAND", "c1 0 ", " 0;", 0, 9, hand -> hand.caller(0, 2));
        range("WANTS", "c1 0 0 ", ";", 0, 5, hand -> hand.caller(0, 3));
    }

    private static void eachNumberOfTheSixthCaller() {
        range("sixth PRIDE", FIVE + "c", " 0 0 0;", 1, 30, hand -> hand.caller(5, 0));
        range("sixth HEART", FIVE + "c1 ", " 0 0;", 0, 30, hand -> hand.caller(5, 1));
        range("sixth LAND", FIVE + "c1 0 ", " 0;", 0, 9, hand -> hand.caller(5, 2));
        range("sixth WANTS", FIVE + "c1 0 0 ", ";", 0, 5, hand -> hand.caller(5, 3));
    }

    private static void range(String what, String ahead, String behind, int least, int most,
            ToIntFunction<VelvetHand> read) {
        int items = (ahead + behind).length() - (ahead + behind).replace(";", "").length();
        for (int n = 0; n <= 110; n++) {
            String text = ahead + n + behind;
            if (n >= least && n <= most) {
                due(what + " is " + n, n, read.applyAsInt(taken(what, text, items)));
            } else {
                fault(what + " can't be " + n, text, ahead.length());
            }
        }
    }

    private static void noneToSixCallers() {
        String text = "";
        for (int callers = 0; callers <= 6; callers++) {
            VelvetHand hand = taken("callers", text, callers);
            due("so many CALLERS", callers, hand.count(0));
            due("there is no such", Checks.BAD, hand.caller(callers, 0));
            if (callers > 0) {
                due("there is the last", callers, hand.caller(callers - 1, 0));
            }
            text += "c" + (callers + 1) + " 0 0 0;";
        }
        fault("a seventh c", text, 54);
        fault("a seventh c, alone", SIX + " c", 55);
        fault("a seventh c ahead of other faults", SIX + "c x", 54);
        taken("six, then others", SIX + "g1;v1;s1;", 9);
    }

    private static void wantsOneWhoIsNotThereOrHimself() {
        VelvetHand hand = taken("wants", "c1 0 0 0;c1 0 0 5;c1 0 0 3;", 3);
        due("his own", 1, hand.caller(0, 8));
        due("none such, as told", 5, hand.caller(1, 3));
        due("none such is of no ring", 0, hand.caller(1, 8));
        due("just beyond the last", 0, hand.caller(2, 8));
    }

    private static void lettersFrom0To255() {
        for (int letter = -3; letter <= 258; letter++) {
            VelvetHand hand = new VelvetHand();
            boolean may = letter >= 0 && letter <= 255;
            due("type(" + letter + ")", may ? 1 : Checks.BAD, hand.type(letter));
            due("letters behind type(" + letter + ")", may ? 1 : 0, hand.count(5));
        }
        VelvetHand hand = new VelvetHand();
        int[] wrapping = {256 + 'g', 'g' - 256, 65536 + 'g', Integer.MIN_VALUE + 'g', Integer.MAX_VALUE};
        for (int letter : wrapping) {
            due("no wrap-around of " + letter, Checks.BAD, hand.type(letter));
        }
        due("nothing came", 0, hand.count(5));
    }

    private static void noneTo120Letters() {
        VelvetHand hand = new VelvetHand();
        due("none", 0, hand.count(5));
        for (int i = 1; i <= 120; i++) {
            due("letter " + i, i, hand.type(BLANK));
            due("so many letters", i, hand.count(5));
        }
        due("the 121st", Checks.FULL, hand.type(BLANK));
        due("again", Checks.FULL, hand.type('g'));
        due("BAD ahead of FULL, below", Checks.BAD, hand.type(-1));
        due("BAD ahead of FULL, above", Checks.BAD, hand.type(256));
        due("120 stay", 120, hand.count(5));
        due("what was refused is not there", 0, hand.embassy());
    }

    private static void clearedEmptyAndFull() {
        VelvetHand hand = new VelvetHand();
        due("clear of none", 0, hand.clear());
        due("clear of none again", 0, hand.clear());
        hand.type('x');
        due("clear of one", 1, hand.clear());
        Checks.typeAll(hand, "g".repeat(121));
        due("clear of all", 120, hand.clear());
        due("empty", 0, hand.count(5));
        due("nothing is left of it", 0, hand.embassy());
        Checks.typeAll(hand, "g".repeat(119));
        due("the last of 120 again", 120, hand.type('g'));
        due("no wrap-around", Checks.FULL, hand.type('g'));
    }

    private static void textsOf120Letters() {
        String blanks = " ".repeat(120 - SIX.length() - 12);
        VelvetHand hand = taken("a full text", SIX + blanks + "g9;v9;  s60;", 9);
        due("the last of it is told", 60, hand.count(3));
        taken("the last letter ends an item", " ".repeat(117) + "g1;", 1);
        taken("the first letters are an item", "g1;" + " ".repeat(117), 1);
        fault("a fault at the first letter", "x" + " ".repeat(119), 0);
        fault("a fault at the last letter", " ".repeat(119) + "x", 119);
        fault("ends too early at the last letter", " ".repeat(118) + "g1", 120);
        fault("ends too early with the letter alone", " ".repeat(119) + "g", 120);
        fault("a number to the last letter", " ".repeat(117) + "s60", 120);
        fault("a wrong number to the last letter", " ".repeat(117) + "s61", 118);
        fault("119 digits", "g" + "1".repeat(119), 1);
        fault("120 digits", "1".repeat(120), 0);
    }

    private static void blanksAnywhereAndAnyNumber() {
        for (int many = 0; many <= 14; many++) {
            String b = " ".repeat(many);
            VelvetHand hand = taken("blanks", b + "c" + b + "30" + b + " 29" + b + " 8" + b + " 4" + b + ";" + b, 1);
            due("PRIDE among blanks", 30, hand.caller(0, 0));
            due("HEART among blanks", 29, hand.caller(0, 1));
            due("LAND among blanks", 8, hand.caller(0, 2));
            due("WANTS among blanks", 4, hand.caller(0, 3));
        }
        taken("116 blanks ahead", " ".repeat(116) + "s10;", 1);
        taken("116 blanks between", "s" + " ".repeat(116) + "10;", 1);
        taken("116 blanks between", "s10" + " ".repeat(116) + ";", 1);
        taken("116 blanks behind", "s10;" + " ".repeat(116), 1);
    }

    private static void blanksNeededBetweenNumbersOnly() {
        VelvetHand hand = taken("without blanks", "g1;v2;s3;c4 5 6 5;c7 8 9 0;", 5);
        due("all of it", 12345, 10000 * hand.count(1) + 1000 * hand.count(2) + 100 * hand.count(3)
            + 10 * hand.caller(0, 0) + hand.caller(0, 1));
        fault("two numbers without a blank are one", "c12 3 4;", 7);
        fault("a number is not parted by a blank", "s1 0;", 3);
        fault("not even a right one", "g1 2;", 3);
    }

    private static void onlyTheBlankIsBlank() {
        int[] others = {0, 9, 10, 11, 12, 13, 31, 33, 127, 133, 160, 255};
        for (int letter : others) {
            String sign = String.valueOf((char) letter);
            fault("letter " + letter + " ahead", sign + "g1;", 0);
            fault("letter " + letter + " between", "g" + sign + "1;", 1);
            fault("letter " + letter + " behind a number", "g1" + sign + ";", 2);
            fault("letter " + letter + " behind all", "g1;" + sign, 3);
        }
    }

    private static void noItemsAtAll() {
        taken("an empty text", "", 0);
        taken("one blank", " ", 0);
        taken("120 blanks", " ".repeat(120), 0);
        VelvetHand hand = Checks.told("g9;v9;s9;c9 9 9 0;");
        due("none tell all anew, too", 0, hand.embassy());
        due("no CALLERS then", 0, hand.count(0));
        due("GRIP as at first", 4, hand.count(1));
        due("VELVET as at first", 3, hand.count(2));
        due("SPRING as at first", 20, hand.count(3));
    }

    private static void eachItemIsEnded() {
        fault("an end without an item", ";", 0);
        fault("two ends", "g1;;", 3);
        fault("two ends behind a caller", "c1 0 0 0;;", 9);
        fault("an end ahead of the number", "g;", 1);
        fault("no end between", "g1v1;", 2);
        fault("no end between callers", "c1 0 0 0c1 0 0 0;", 8);
        fault("no end behind the last", "g1;v1", 5);
    }

    private static void onceAtMostEach() {
        String[] letters = {"g", "v", "s"};
        for (String letter : letters) {
            taken("once", letter + "1;", 1);
            fault("twice", letter + "1;" + letter + "1;", 3);
            fault("twice, others between", letter + "1;" + FIVE + letter + "1;", 48);
            fault("again, ahead of its own faults", letter + "1; " + letter + ";", 4);
            fault("again, and the text ends", letter + "1;" + letter, 3);
        }
        taken("each once", "g1;v1;s1;", 3);
        taken("each once, in any order, among callers", "s1;c1 0 0 0;v1;c1 0 0 0;g1;", 5);
    }

    private static void eachLetterWhereAnItemMayBegin() {
        for (int letter = 0; letter <= 255; letter++) {
            String text = (char) letter + "";
            boolean begins = "cgvs".indexOf(letter) >= 0;
            if (letter == BLANK) {
                taken("only a blank", text, 0);
            } else {
                fault("letter " + letter + " where an item may begin", text, begins ? 1 : 0);
                fault("letter " + letter + " behind an item", "c1 0 0 0; " + text, begins ? 11 : 10);
            }
        }
    }

    private static void eachLetterWhereANumberIsDue() {
        for (int letter = 0; letter <= 255; letter++) {
            String text = "g" + (char) letter + ";";
            if (letter >= '0' && letter <= '9') {
                due("GRIP of letter " + letter, letter - '0', taken("a digit", text, 1).count(1));
            } else {
                fault("letter " + letter + " where a number is due", text, letter == BLANK ? 2 : 1);
            }
        }
    }

    private static void eachLetterWhereTheEndIsDue() {
        for (int letter = 0; letter <= 255; letter++) {
            String text = "g5" + (char) letter;
            if (letter == ';') {
                taken("an end", text, 1);
            } else if (letter >= '0' && letter <= '9') {
                fault("one digit more", text, 1);
            } else {
                fault("letter " + letter + " where the end is due", text, letter == BLANK ? 3 : 2);
            }
        }
    }

    private static void eachLetterBetweenNumbers() {
        for (int letter = 0; letter <= 255; letter++) {
            String text = "c1" + (char) letter + "2 3 4;";
            if (letter == BLANK) {
                taken("a blank", text, 1);
            } else if (letter >= '0' && letter <= '9') {
                fault("digits run on, above 99", text, 1);
            } else {
                fault("letter " + letter + " between numbers", text, 2);
            }
        }
    }

    private static void numbersAbove99() {
        String[] numbers = {"99", "100", "101", "999", "1000", "255", "256", "260", "65537"};
        for (String number : numbers) {
            fault("where it is too large", "s " + number + ";", 2);
            fault("where no number can stand", "s1;" + number, 3);
            fault("where the end is due", "s1 " + number, 3);
            fault("as the last of four", "c1 0 0 " + number, 7);
        }
    }

    private static void zerosAheadOfOthers() {
        taken("0 alone", "g0;", 1);
        taken("0 alone, each that may be", "c1 0 0 0;v0;", 2);
        taken("a 0 behind others", "s10;", 1);
        String[] numbers = {"00", "01", "010", "000000000000000000001"};
        for (String number : numbers) {
            fault("a 0 ahead", "s" + number + ";", 1);
            fault("a 0 ahead", "g" + number + ";", 1);
            fault("a 0 ahead", "c1 " + number + " 0 0;", 3);
            fault("a 0 ahead, at the end", "c1 0 0 " + number, 7);
        }
    }

    private static void numbersThatWouldWrapAround() {
        String[] numbers = {"256", "65536", "2147483647", "2147483648", "4294967295", "4294967296", "4294967297",
            "4294967301", "9223372036854775808", "18446744073709551617", "340282366920938463463374607431768211457"};
        for (String number : numbers) {
            fault("no wrap-around", "s" + number + ";", 1);
            fault("no wrap-around", "g" + number + ";", 1);
            fault("no wrap-around", "c1 0 0 " + number + ";", 7);
        }
        for (int zeros = 2; zeros <= 110; zeros++) {
            fault("so many zeros behind a 1", "s1" + "0".repeat(zeros) + ";", 1);
        }
    }

    private static void tooFewNumbersAndTooMany() {
        fault("none of four", "c;", 1);
        fault("one of four", "c1;", 2);
        fault("two of four", "c1 0;", 4);
        fault("three of four", "c1 0 0;", 6);
        fault("five of four", "c1 0 0 0 0;", 9);
        String[] letters = {"g", "v", "s"};
        for (String letter : letters) {
            fault("none of one", letter + " ;", 2);
            fault("two of one", letter + "1 1;", 3);
        }
    }

    private static void endsTooEarly() {
        String caller = "c30 29 9 5";
        for (int length = 1; length <= caller.length(); length++) {
            fault("cut off", caller.substring(0, length), length);
            fault("cut off, blanks behind", caller.substring(0, length) + "  ", length + 2);
        }
        String[] texts = {"g", "g9", "v", "v9", "s", "s60"};
        for (String text : texts) {
            fault("cut off", text, text.length());
            fault("cut off, a blank behind", text + " ", text.length() + 1);
            fault("cut off behind others", "c1 0 0 0;" + text, text.length() + 9);
        }
    }

    private static void firstFaultOfSeveral() {
        fault("a token that can't stand, ahead of a wrong one", "g;x", 1);
        fault("a wrong one ahead of one that can't stand", "gx;", 1);
        fault("a token that can't stand, ahead of a number above 99", "g1 5 100", 3);
        fault("a number beyond, ahead of a wrong letter", "g10x", 1);
        fault("a wrong letter ahead of the early end", "g1;v!", 4);
        fault("g again, ahead of the early end", "g1;g", 3);
        fault("a number beyond, ahead of the early end", "c31", 1);
    }

    private static void aFaultChangesNothing() {
        String[] texts = {"x", "g5;v5;s5;c2 2 2 2", "c9 9 9 5;g", "g1;g1;", SIX + "c1 0 0 0;", "v;", "s0;", "  ;"};
        int[] places = {0, 17, 10, 3, 54, 1, 1, 2};
        for (int i = 0; i < texts.length; i++) {
            String text = texts[i];
            Checks.changesNothing("fault of '" + text + "'", "g9;v2;s2;c5 4 3 0;c7 30 1 2;c30 30 9 5;", hand -> {
                hand.shakes(0, 1);
                hand.keep(0);
                hand.shakes(0, 0);
                hand.keep(1);
                hand.tells(0, 1, 1);
                hand.rate(4, 0);
                Checks.typeAll(hand, text);
            }, -10 - places[i], hand -> hand.embassy());
        }
    }

    private static void toldAnewAsANewOne() {
        String[] texts = {"", "g1;", "v1;", "s1;", "c3 4 5 0;", "g0;v0;s1;" + SIX, "s2;c8 30 1 0;c9 30 2 0;"};
        for (String first : texts) {
            for (String text : texts) {
                for (int often = 1; often <= 2; often++) {
                    asANewOne(first, text, often);
                }
            }
        }
    }

    private static void asANewOne(String first, String text, int often) {
        VelvetHand hand = Checks.told("g9;v8;s7;c9 5 8 0;c1 30 7 1;c30 30 6 2;");
        for (int i = 0; i < often; i++) {
            hand.shakes(0, 0);
            hand.keep(0);
            Checks.shakeAll(hand, 1, "1000000");
            hand.lines(0);
            hand.tells(0, 1, 1);
            hand.keep(1);
            Checks.typeAll(hand, i == 0 && often == 2 ? first : text);
            hand.embassy();
        }
        List<Long> due = Checks.allThatCanBeSeen(Checks.told(text));
        List<Long> seen = Checks.allThatCanBeSeen(hand);
        due("'" + text + "' anew: as many answers", due.size(), seen.size());
        for (int i = 0; i < Math.min(due.size(), seen.size()); i++) {
            due("'" + text + "' anew: answer " + i, due.get(i), seen.get(i));
        }
    }

    private static void nothingOfAnEarlierText() {
        String[] earlier = {"g1      ", "g123456;", "g1;;;;;;", "        ", "00000000"};
        for (String text : earlier) {
            VelvetHand hand = new VelvetHand();
            Checks.typeAll(hand, text);
            hand.clear();
            Checks.typeAll(hand, "g");
            due("g behind '" + text + "'", -11, hand.embassy());
            hand.type('1');
            due("g1 behind '" + text + "'", -12, hand.embassy());
            hand.type(';');
            due("g1; behind '" + text + "'", 1, hand.embassy());
            due("GRIP behind '" + text + "'", 1, hand.count(1));
            Checks.typeAll(hand, "s5");
            due("s5 behind '" + text + "'", -12, hand.embassy());
            hand.clear();
            due("nothing behind '" + text + "'", 0, hand.embassy());
        }
    }

    private static void toldAnewFromFullToEmpty() {
        VelvetHand hand = taken("full", "g9;v9;s60;c30 30 9 5;c30 30 9 5;c30 30 9 5;c30 30 9 5;c30 30 9 5;c30 30 9 5;", 9);
        for (int c = 0; c < 6; c++) {
            hand.shakes(c, 0);
        }
        due("told anew: a text of none", 0, hand.embassy());
        Checks.typeAll(hand, SIX);
        due("told anew: six again", 6, hand.embassy());
        for (int c = 0; c < 6; c++) {
            for (int what = 1; what < 8; what++) {
                due("nothing stays of caller " + c + ", " + what, 0, hand.caller(c, what));
            }
        }
    }
}
