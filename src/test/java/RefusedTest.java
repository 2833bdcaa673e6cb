import java.util.ArrayList;
import java.util.List;

/** What is refused and what is only asked changes nothing: told by twins, of which one alone is asked. */
public final class RefusedTest {
    /** One call on an object. */
    private interface Call {
        int on(ShowRights x);
    }

    private static final int STATES = 6;
    private static final int[] OFFERS = {6, 4, 4, 4, 3, 3};
    private static final String TEXT = "t1,30;o3,1,1,2,9,1,5;o3,1,2,4,8,0,7;o1,1,3,9,20,0,6;o2,1,1,28,31,0,9;h1,0,6;";

    public static void main(String[] args) {
        for (int state = 0; state < STATES; state++) {
            badOffers(state);
            badNumbers(state);
            badLetters(state);
            noAsThingsStand(state);
            questions(state);
            told(state);
        }
        layRefused();
        fullText();
        theFirstInThisOrder();
        allAsItStandsThen();
        theTextStays();
        Due.end();
    }

    /** Six states: new; laid; some changes; more than six changes; a HOLD broken; with a text that has a FAULT. */
    private static ShowRights inState(int state) {
        ShowRights x = new ShowRights();
        if (state == 0) return x;
        Due.write(x, TEXT);
        x.lay();
        if (state >= 2) {
            x.move(1, 5);
            x.sign(0);
            x.move(2, 3);
        }
        if (state >= 3) {
            x.drop(0);
            x.take();
            x.take();
            x.undo();
            for (int d = 1; d <= 5; d++) x.move(3, d);
        }
        if (state >= 4) {
            x.wipe();
            Due.write(x, "o1,1,1,0,1,0,5;o1,1,1,8,9,0,5;o1,1,2,10,12,0,5;h1,0,5;");
            x.lay();
            for (int i = 0; i < 3; i++) x.sign(i);
            x.drop(0);
        }
        if (state >= 5) Due.write(x, "t2,1;x");
        return x;
    }

    /** All of an object that is looked at in few calls, then how it goes back change by change, then what its text lays. */
    private static List<Integer> told(ShowRights x) {
        List<Integer> all = new ArrayList<>();
        lookAt(x, all);
        int more = x.undo();
        while (more >= 0) {
            all.add(more);
            lookAt(x, all);
            more = x.undo();
        }
        all.add(x.fault());
        all.add(x.lay());
        lookAt(x, all);
        return all;
    }

    private static void lookAt(ShowRights x, List<Integer> all) {
        for (int what = 0; what <= 8; what++) all.add(x.count(what));
        for (int i = 0; i < x.count(0); i++) {
            all.add(x.offer(i, 3));
            all.add(x.offer(i, 7));
        }
        all.add(x.points(1));
        all.add(x.broken(0));
    }

    private static void changesNothing(String name, int state, Call call, int want) {
        ShowRights asked = inState(state);
        ShowRights twin = inState(state);
        String where = name + " in state " + state;
        Due.is(where, call.on(asked), want);
        Due.is(where + " changes nothing", told(asked).equals(told(twin)) ? 1 : 0, 1);
    }

    private static void asksOnly(String name, int state, Call call) {
        int answer = call.on(inState(state));
        changesNothing(name, state, call, answer);
        ShowRights twice = inState(state);
        call.on(twice);
        Due.is(name + " twice in state " + state, call.on(twice), answer);
    }

    private static void badOffers(int state) {
        Due.by("BAD: a number is none that is told (OFFERS such as there are); nothing changes then");
        int[] numbers = {-1, OFFERS[state], 10, 32, Integer.MAX_VALUE, Integer.MIN_VALUE};
        for (int i : numbers) {
            changesNothing("sign(" + i + ")", state, x -> x.sign(i), Due.BAD);
            changesNothing("why(" + i + ")", state, x -> x.why(i), Due.BAD);
            changesNothing("clash(" + i + ")", state, x -> x.clash(i), Due.BAD);
            changesNothing("drop(" + i + ")", state, x -> x.drop(i), Due.BAD);
            changesNothing("move(" + i + ", 1)", state, x -> x.move(i, 1), Due.BAD);
            changesNothing("soonest(" + i + ")", state, x -> x.soonest(i), Due.BAD);
            changesNothing("offer(" + i + ", 3)", state, x -> x.offer(i, 3), Due.BAD);
            changesNothing("common(0, " + i + ")", state, x -> x.common(0, i), Due.BAD);
            changesNothing("common(" + i + ", 0)", state, x -> x.common(i, 0), Due.BAD);
        }
    }

    private static void badNumbers(int state) {
        Due.by("BAD: a number is none that is told (HOLDS such as there are; LANDS, TONGUES, MEANS, WEEKS 0 on as told)");
        int[] numbers = {-1, 64, Integer.MAX_VALUE, Integer.MIN_VALUE};
        for (int n : numbers) {
            changesNothing("move(0, " + n + ")", state, x -> x.move(0, n), Due.BAD);
            changesNothing("broken(" + n + ")", state, x -> x.broken(n), Due.BAD);
            changesNothing("begin(" + n + ", 0)", state, x -> x.begin(n, 0), Due.BAD);
            changesNothing("begin(0, " + n + ")", state, x -> x.begin(0, n), Due.BAD);
            changesNothing("point(0, 0, 0, " + n + ", 0)", state, x -> x.point(0, 0, 0, n, 0), Due.BAD);
            changesNothing("points(" + n + ")", state, x -> x.points(n), Due.BAD);
            changesNothing("window(" + n + ", ..)", state, x -> x.window(n, 0, 0, 0, 0), Due.BAD);
            changesNothing("longest(" + n + ")", state, x -> x.longest(n), Due.BAD);
            changesNothing("best(" + n + ")", state, x -> x.best(n), Due.BAD);
            changesNothing("count(" + n + ")", state, x -> x.count(n), Due.BAD);
            changesNothing("offer(0, " + n + ")", state, x -> x.offer(0, n), Due.BAD);
        }
        changesNothing("window(.., -2, 0)", state, x -> x.window(0, 0, 0, -2, 0), Due.BAD);
        changesNothing("common(0, 0)", state, x -> x.common(0, 0), Due.BAD);
    }

    private static void badLetters(int state) {
        Due.by("write: BAD; nothing changes then");
        int[] letters = {-1, 0, 10, 31, 127, 128, 256 + 't', Integer.MAX_VALUE, Integer.MIN_VALUE};
        for (int letter : letters) changesNothing("write(" + letter + ")", state, x -> x.write(letter), Due.BAD);
    }

    private static void noAsThingsStand(int state) {
        Due.by("NO: not as things stand; nothing changes then");
        ShowRights now = inState(state);
        for (int n = 0; n < OFFERS[state]; n++) {
            int i = n;
            if (now.offer(i, 7) == 1) {
                changesNothing("sign(" + i + ")", state, x -> x.sign(i), Due.NO);
                changesNothing("move(" + i + ", 1)", state, x -> x.move(i, 1), Due.NO);
                changesNothing("soonest(" + i + ")", state, x -> x.soonest(i), Due.NO);
            } else {
                changesNothing("drop(" + i + ")", state, x -> x.drop(i), Due.NO);
                changesNothing("move(" + i + ", 51)", state, x -> x.move(i, 51), Due.NO);
                if (now.why(i) != 0) changesNothing("sign(" + i + ")", state, x -> x.sign(i), Due.NO);
            }
        }
        if (state < 2) changesNothing("undo()", state, x -> x.undo(), Due.NO);
    }

    private static void questions(int state) {
        Due.by("All that is asked is told of all as it stands then");
        for (int n = 0; n < OFFERS[state]; n++) {
            int i = n;
            asksOnly("why(" + i + ")", state, x -> x.why(i));
            asksOnly("clash(" + i + ")", state, x -> x.clash(i));
            asksOnly("soonest(" + i + ")", state, x -> x.soonest(i));
            asksOnly("offer(" + i + ", 8)", state, x -> x.offer(i, 8));
            asksOnly("common(" + i + ", 1)", state, x -> x.common(i, 1));
        }
        asksOnly("fault()", state, x -> x.fault());
        asksOnly("begin(0, 0)", state, x -> x.begin(0, 0));
        asksOnly("broken(0)", state, x -> x.broken(0));
        asksOnly("point(0, 0, 0, 5, 0)", state, x -> x.point(0, 0, 0, 5, 0));
        asksOnly("point(0, 0, 0, 5, 1)", state, x -> x.point(0, 0, 0, 5, 1));
        for (int n = 0; n <= 4; n++) {
            int what = n;
            asksOnly("points(" + what + ")", state, x -> x.points(what));
            asksOnly("longest(" + what + ")", state, x -> x.longest(what));
        }
        for (int n = 0; n <= 8; n++) {
            int what = n;
            asksOnly("count(" + what + ")", state, x -> x.count(what));
        }
        asksOnly("window(0, 0, 0, -1, 0)", state, x -> x.window(0, 0, 0, -1, 0));
        asksOnly("window(0, 0, 0, 0, 1)", state, x -> x.window(0, 0, 0, 0, 1));
        asksOnly("best(0)", state, x -> x.best(0));
        asksOnly("best(1)", state, x -> x.best(1));
    }

    /** THE TEXT is one thing, what is LAID another: to write and to wipe changes nothing but THE TEXT. */
    private static void told(int state) {
        Due.by("write, wipe: THE TEXT alone becomes another");
        Call[] calls = {x -> x.write('o'), x -> x.write(' '), x -> x.wipe()};
        for (Call call : calls) {
            ShowRights asked = inState(state);
            ShowRights twin = inState(state);
            call.on(asked);
            List<Integer> one = new ArrayList<>();
            List<Integer> other = new ArrayList<>();
            lookAt(asked, one);
            lookAt(twin, other);
            // count(8) tells of THE TEXT itself
            one.set(8, 0);
            other.set(8, 0);
            Due.is("all but THE TEXT stays in state " + state, one.equals(other) ? 1 : 0, 1);
            Due.is("undo() in state " + state, asked.undo(), twin.undo());
        }
    }

    private static void layRefused() {
        Due.by("lay: NO; nothing changes then");
        String[] texts = {"", "x", "t5,6;", "t5,6;h0,1,9;", "o1,1,1,0,0,0,1", "t5,6;o1,1,1,5,6,0,9;h0,1,1;o1,1,1,0,0,0,0;",
            "o2,2,2,2,2,1,2;".repeat(11), "o2,2,2,2,2,1,2;" + "h0,1,1;".repeat(5)};
        for (int state = 0; state < STATES; state++) {
            for (String text : texts) {
                ShowRights asked = inState(state);
                ShowRights twin = inState(state);
                for (ShowRights x : new ShowRights[] {asked, twin}) {
                    x.wipe();
                    Due.write(x, text);
                }
                Due.is("lay() of " + text, asked.lay(), Due.NO);
                Due.is("lay() of " + text + " again", asked.lay(), Due.NO);
                Due.is("all stays in state " + state + " behind " + text, told(asked).equals(told(twin)) ? 1 : 0, 1);
            }
        }
    }

    private static void fullText() {
        Due.by("write: FULL; nothing changes then");
        String whole = "o1,1,1,0,0,0,10;".repeat(10) + "h0,1,1;".repeat(4) + "t0,51;t1,50;";
        ShowRights x = new ShowRights();
        Due.write(x, whole);
        int[] letters = {32, 'x', ';', 126};
        for (int letter : letters) Due.is("write(" + letter + ")", x.write(letter), Due.FULL);
        Due.is("count(8)", x.count(8), 200);
        Due.is("fault()", x.fault(), Due.NONE);
        Due.is("lay()", x.lay(), 10);
        Due.is("count(2)", x.count(2), 1);
    }

    private static void theFirstInThisOrder() {
        Due.by("BAD, NO, NONE, FULL: of several the first in this order");
        ShowRights x = Due.signed("t9,9;o63,15,15,9,9,0,1;o1,1,1,9,10,0,1;", 2, 0);
        Due.is("BAD, NO: move(0, 52)", x.move(0, 52), Due.BAD);
        Due.is("BAD, NO: move(2, 0)", x.move(2, 0), Due.BAD);
        Due.is("BAD, NONE: longest(5)", x.longest(5), Due.BAD);
        Due.is("BAD, NONE: window(0, 0, 0, 0, 2)", x.window(0, 0, 0, 0, 2), Due.BAD);
        Due.is("BAD, NONE: window(6, 0, 0, 0, 0)", x.window(6, 0, 0, 0, 0), Due.BAD);
        Due.is("BAD, NONE: begin(6, 0)", x.begin(6, 0), Due.BAD);
        // 1 can't be MOVED into the TERM: NONE, and once SIGNED it would be NO
        Due.is("NONE: soonest(1)", x.soonest(1), Due.NONE);
        Due.is("NO, NONE: soonest(0)", x.soonest(0), Due.NO);
        for (int n = 0; n < 200; n++) x.write('x');
        Due.is("BAD, FULL: write(127)", x.write(127), Due.BAD);
        Due.is("FULL: write(126)", x.write(126), Due.FULL);
    }

    private static void allAsItStandsThen() {
        Due.by("All that is asked is told of all as it stands then");
        ShowRights x = Due.laid("t0,9;o1,1,1,0,4,1,5;o1,1,1,4,8,0,6;", 2);
        standsThen(x, "laid", 0, 1, 6, 960);
        Due.is("move(1, 1)", x.move(1, 1), 0);
        standsThen(x, "MOVED", 0, 0, 11, 960);
        Due.is("sign(0)", x.sign(0), 1);
        standsThen(x, "SIGNED", 5, 0, 11, 955);
        Due.is("undo()", x.undo(), 1);
        standsThen(x, "UNDONE", 0, 0, 11, 960);
        Due.is("undo()", x.undo(), 0);
        standsThen(x, "UNDONE again", 0, 1, 6, 960);
    }

    private static void standsThen(ShowRights x, String when, int... due) {
        Due.is("count(5), " + when, x.count(5), due[0]);
        Due.is("count(6), " + when, x.count(6), due[1]);
        Due.is("best(0), " + when, x.best(0), due[2]);
        Due.is("points(4), " + when, x.points(4), due[3]);
    }

    private static void theTextStays() {
        Due.by("LAID, THE TEXT stays");
        ShowRights x = Due.laid(TEXT, 4);
        Due.is("count(8)", x.count(8), TEXT.length());
        Due.is("fault()", x.fault(), Due.NONE);
        Due.is("lay() again", x.lay(), 4);
        Call[] changes = {y -> y.sign(0), y -> y.drop(0), y -> y.move(1, 3), y -> y.take(), y -> y.undo(), y -> y.undo()};
        for (Call change : changes) {
            change.on(x);
            Due.is("count(8) behind a change", x.count(8), TEXT.length());
        }
        Due.is("count(7)", x.count(7), 2);
        Due.is("write behind it", x.write('h'), TEXT.length() + 1);
        Due.is("fault()", x.fault(), TEXT.length());
        Due.write(x, "2,3,9;");
        Due.is("lay() of more", x.lay(), 4);
        Due.is("count(1)", x.count(1), 2);
        Due.is("wipe()", x.wipe(), TEXT.length() + 7);
    }
}
