/** What the project's tests have in common: counted checks, and hands made from a text. */
final class Checks {
    private static int made = 0;
    private static int wrong = 0;

    static void due(String what, long want, long got) {
        made++;
        if (got != want) {
            wrong++;
            System.out.println(what + " answered " + got + ", due is " + want);
        }
    }

    static void typeAll(VelvetHand hand, String text) {
        for (int i = 0; i < text.length(); i++) {
            hand.type(text.charAt(i));
        }
    }

    static VelvetHand told(String text) {
        VelvetHand hand = new VelvetHand();
        typeAll(hand, text);
        int items = hand.embassy();
        if (items < 0) {
            due("embassy() of " + text, 0, items);
        }
        return hand;
    }

    static void end() {
        System.out.println(made + " checks, " + wrong + " wrong");
        if (wrong > 0 || made == 0) {
            System.exit(1);
        }
    }
}
