/** All promises: runs of calls from fixed seeds, each answer against the model's. */
public final class ModelTest {
    private static final int RUNS = 250;
    private static final int CALLS = 512;
    private static final int[] WILD = {-1, -2, 6, 10, 32, 33, 52, 63, 64, 65, Integer.MAX_VALUE, Integer.MIN_VALUE};
    private static final String LETTERS = "toh0123456789,;,;,; T:/";

    private final int run;
    private long seed;
    private final ShowRights rights = new ShowRights();
    private final Model model = new Model();
    private int calls;

    private ModelTest(int run) {
        this.run = run;
        this.seed = run * 7919L + 17;
    }

    public static void main(String[] args) {
        for (int run = 0; run < RUNS; run++) new ModelTest(run).go();
        Due.end();
    }

    private int below(int bound) {
        seed = seed * 6364136223846793005L + 1442695040888963407L;
        return (int) ((seed >>> 33) % bound);
    }

    private int from(int low, int high) {
        return low + below(high - low + 1);
    }

    /** A number that is mostly one of those asked for. */
    private int near(int bound) {
        return below(25) == 0 ? WILD[below(WILD.length)] : below(bound);
    }

    private void go() {
        if (below(8) != 0) tell();
        while (calls < CALLS) {
            if (below(150) == 0 && calls < CALLS - 250) tell();
            oneCall();
        }
    }

    private void due(String call, int got, int want) {
        calls++;
        Due.is("run " + run + ", call " + calls + ": " + call, got, want);
    }

    // ---- texts

    private void tell() {
        due("wipe()", rights.wipe(), model.wipe());
        String text = someText();
        for (int i = 0; i < text.length() && calls < CALLS; i++) {
            due("write(" + (int) text.charAt(i) + ")", rights.write(text.charAt(i)), model.write(text.charAt(i)));
        }
        due("fault() of " + text, rights.fault(), model.fault());
        due("lay() of " + text, rights.lay(), model.lay());
    }

    private String someText() {
        StringBuilder text = new StringBuilder();
        boolean narrow = below(2) == 0;
        int most = from(1, 12);
        for (int i = 0; i < most && text.length() < 185; i++) text.append(offerItem(narrow));
        int holds = below(3) == 0 ? from(0, 6) : from(0, 3);
        for (int h = 0; h < holds && text.length() < 193; h++) insertItem(text, holdItem());
        if (below(2) == 0 && text.length() < 193) insertItem(text, "t" + from(0, 12) + "," + from(35, 51) + ";");
        if (below(4) == 0 && text.length() < 193) insertItem(text, "t" + from(0, 52) + "," + from(0, 52) + ";");
        if (below(3) == 0) spoil(text);
        return text.toString();
    }

    /** Few cells and long spans make OFFERS meet. */
    private String offerItem(boolean narrow) {
        int first = below(15) == 0 ? from(0, 52) : from(0, 40);
        int last = below(15) == 0 ? from(0, 52) : Math.min(51, first + from(0, narrow ? 8 : 20));
        int lands = narrow ? from(1, 3) : from(1, 63);
        int tongues = narrow ? from(1, 3) : from(1, 15);
        int means = narrow || below(2) == 0 ? 1 << from(0, 3) : from(1, 15);
        int price = below(2) == 0 ? from(1, 5) : from(1, 99);
        int alone = below(3) == 0 ? 1 : 0;
        return "o" + lands + "," + tongues + "," + means + "," + first + "," + last + "," + alone + "," + price + ";";
    }

    private String holdItem() {
        int later = from(0, 3);
        int earlier = below(20) == 0 ? later : (later + from(1, 3)) % 4;
        return "h" + later + "," + earlier + "," + (below(20) == 0 ? from(0, 52) : from(1, 15)) + ";";
    }

    private void insertItem(StringBuilder text, String item) {
        int[] places = new int[text.length() + 1];
        int found = 1;
        for (int i = 0; i < text.length(); i++) if (text.charAt(i) == ';') places[found++] = i + 1;
        text.insert(places[below(found)], item);
    }

    private void spoil(StringBuilder text) {
        int place = below(text.length());
        char letter = LETTERS.charAt(below(LETTERS.length()));
        int way = below(3);
        if (way == 0) text.setCharAt(place, letter);
        if (way == 1) text.insert(place, letter);
        if (way == 2) text.deleteCharAt(place);
    }

    // ---- calls

    private void oneCall() {
        int kind = below(100);
        if (kind < 45) change(kind);
        else if (kind < 90) look(kind - 45);
        else if (kind < 93) told(kind - 90);
        else ask();
    }

    private void change(int kind) {
        int i = near(model.count(0));
        int d = below(3) == 0 ? near(52) : near(12);
        if (kind < 16) due("sign(" + i + ")", rights.sign(i), model.sign(i));
        else if (kind < 23) due("drop(" + i + ")", rights.drop(i), model.drop(i));
        else if (kind < 31) due("move(" + i + ", " + d + ")", rights.move(i, d), model.move(i, d));
        else if (kind < 36) moveToSoonest(i);
        else if (kind < 43) due("undo()", rights.undo(), model.undo());
        else if (below(4) == 0) due("take()", rights.take(), model.take());
        else due("why(" + i + ")", rights.why(i), model.why(i));
    }

    private void moveToSoonest(int i) {
        int d = model.soonest(i);
        due("soonest(" + i + ")", rights.soonest(i), d);
        if (d < 0) return;
        due("move(" + i + ", " + d + ")", rights.move(i, d), model.move(i, d));
        due("sign(" + i + ")", rights.sign(i), model.sign(i));
    }

    private void look(int kind) {
        int i = near(model.count(0));
        int j = near(model.count(0));
        int land = near(6);
        int tongue = near(4);
        int means = near(4);
        int week = near(52);
        int what = near(9);
        if (kind < 5) due("why(" + i + ")", rights.why(i), model.why(i));
        else if (kind < 10) due("clash(" + i + ")", rights.clash(i), model.clash(i));
        else if (kind < 16) due("offer(" + i + ", " + what + ")", rights.offer(i, what), model.offer(i, what));
        else if (kind < 19) due("common(" + i + ", " + j + ")", rights.common(i, j), model.common(i, j));
        else if (kind < 24) due("begin(" + land + ", " + means + ")", rights.begin(land, means), model.begin(land, means));
        else if (kind < 28) lookAtHold(near(4));
        else if (kind < 36) lookAtPoint(new int[] {land, tongue, means, week, near(2)});
        else lookAtWindow(new int[] {land, tongue, means, below(3) == 0 ? -1 : near(4), near(2)});
    }

    private void lookAtHold(int h) {
        due("broken(" + h + ")", rights.broken(h), model.broken(h));
    }

    private void lookAtPoint(int[] n) {
        due("point(" + n[0] + ", " + n[1] + ", " + n[2] + ", " + n[3] + ", " + n[4] + ")",
                rights.point(n[0], n[1], n[2], n[3], n[4]), model.point(n[0], n[1], n[2], n[3], n[4]));
    }

    private void lookAtWindow(int[] n) {
        due("window(" + n[0] + ", " + n[1] + ", " + n[2] + ", " + n[3] + ", " + n[4] + ")",
                rights.window(n[0], n[1], n[2], n[3], n[4]), model.window(n[0], n[1], n[2], n[3], n[4]));
    }

    private void told(int kind) {
        int letter = below(10) == 0 ? WILD[below(WILD.length)] : from(32, 126);
        if (kind == 0) due("write(" + letter + ")", rights.write(letter), model.write(letter));
        else if (kind == 1) due("fault()", rights.fault(), model.fault());
        else if (below(6) == 0) due("lay()", rights.lay(), model.lay());
    }

    private void ask() {
        int what = near(9);
        due("count(" + what + ")", rights.count(what), model.count(what));
        int five = near(5);
        int kind = below(4);
        if (kind == 0) due("points(" + five + ")", rights.points(five), model.points(five));
        if (kind == 1) due("longest(" + five + ")", rights.longest(five), model.longest(five));
        int two = near(2);
        if (kind == 2 && below(4) == 0) due("best(" + two + ")", rights.best(two), model.best(two));
    }
}
