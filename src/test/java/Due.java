/** What the tests have in common: an answer against the one that is due, and a text written letter by letter. */
final class Due {
    static final int BAD = -1, NO = -2, FULL = -3, NONE = -4;
    /** Numbers that are wrong wherever a number from 0 on is asked for; some would be right if they wrapped around. */
    static final int[] WILD = {
        -1, -2, -32, -64, 64, 65, 128, 256, 1000, 65536, 1 << 30, Integer.MAX_VALUE, Integer.MIN_VALUE,
        Integer.MIN_VALUE + 1};

    private static int asked = 0;
    private static int wrong = 0;
    private static String sentence = "";
    private static int askedOfSentence = 1;

    private Due() {
    }

    /** The document's sentence that the answers from here on are due by. */
    static void by(String words) {
        sentenceIsTested();
        sentence = words;
        askedOfSentence = 0;
    }

    static void is(String call, int got, int want) {
        asked++;
        askedOfSentence++;
        if (got != want) {
            wrong++;
            String by = sentence.isEmpty() ? "" : "\"" + sentence + "\": ";
            System.out.println(by + call + " answered " + got + ", due is " + want);
        }
    }

    static void write(ShowRights rights, String text) {
        for (int i = 0; i < text.length(); i++) rights.write(text.charAt(i));
    }

    /** A new object with a text LAID; how many OFFERS it has is tested on the way. */
    static ShowRights laid(String text, int offers) {
        ShowRights rights = new ShowRights();
        write(rights, text);
        is("lay() of " + text, rights.lay(), offers);
        return rights;
    }

    /** A new object with a text LAID and some of its OFFERS SIGNED, one behind the other. */
    static ShowRights signed(String text, int offers, int... which) {
        ShowRights rights = laid(text, offers);
        for (int n = 0; n < which.length; n++) {
            is("sign(" + which[n] + ") of " + text, rights.sign(which[n]), n + 1);
        }
        return rights;
    }

    static void fault(String text, int want) {
        ShowRights rights = new ShowRights();
        write(rights, text);
        is("fault() of " + text, rights.fault(), want);
    }

    private static void sentenceIsTested() {
        if (askedOfSentence == 0) {
            wrong++;
            System.out.println("\"" + sentence + "\" has no answer that is due by it");
        }
    }

    static void end() {
        sentenceIsTested();
        System.out.println(asked + " answers, " + wrong + " not as due");
        if (wrong != 0 || asked == 0) System.exit(1);
    }
}
