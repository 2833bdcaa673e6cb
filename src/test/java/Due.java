/** What the tests have in common: an answer against the one that is due, and a text written letter by letter. */
final class Due {
    static final int BAD = -1, NO = -2, FULL = -3, NONE = -4;
    /** Numbers that are wrong wherever a number from 0 on is asked for. */
    static final int[] WILD = {-1, -2, 64, 1000, Integer.MAX_VALUE, Integer.MIN_VALUE};

    private static int asked = 0;
    private static int wrong = 0;

    private Due() {
    }

    static void is(String call, int got, int want) {
        asked++;
        if (got != want) {
            wrong++;
            System.out.println(call + " answered " + got + ", due is " + want);
        }
    }

    static void write(ShowRights rights, String text) {
        for (int i = 0; i < text.length(); i++) rights.write(text.charAt(i));
    }

    /** A new object with a text LAID; how many OFFERS it has is tested on the way. */
    static ShowRights laid(String text, int offers) {
        ShowRights rights = new ShowRights();
        write(rights, text);
        is("lay() of " + text, rights.lay(), offers);
        return rights;
    }

    static void end() {
        System.out.println(asked + " answers, " + wrong + " not as due");
        if (wrong != 0 || asked == 0) System.exit(1);
    }
}
