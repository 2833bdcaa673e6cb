import java.util.Arrays;

/** The boundary cases of the document's first part, sentence by sentence: points, THE TEXT, its ITEMS, FAULT, LAID. */
public final class TextEdgesTest {
    private static final String OFFER = "o1,1,1,0,0,0,1;";
    private static final String HOLD = "h0,1,1;";

    public static void main(String[] args) {
        numbersOfAPoint();
        callsOfAnObject();
        tenOffers();
        noneEmpty();
        fromFirstToLast();
        price();
        fourHolds();
        unlikeMeans();
        twoHundredLetters();
        itemsAndTheirEnds();
        figures();
        howManyNumbers();
        term();
        termWithout();
        lastTerm();
        offerNumbers();
        offerWeeks();
        holdNumbers();
        faultIsAPlace();
        faultIsTheFirst();
        faultOfOneTooMany();
        laidNeedsAnOffer();
        laidAtFirst();
        laidUnsignedUnmoved();
        Due.end();
    }

    private static void numbersOfAPoint() {
        Due.by("A POINT is a LAND (0 to 5), a TONGUE (0 to 3), a MEANS (0 to 3) and a WEEK (0 to 51) of the TERM");
        ShowRights x = Due.signed("o63,15,15,0,51,0,1;", 1, 0);
        int[] high = {5, 3, 3, 51};
        for (int which = 0; which < high.length; which++) {
            for (int number = -1; number <= high[which] + 1; number++) {
                int[] n = new int[4];
                n[which] = number;
                int want = number < 0 || number > high[which] ? Due.BAD : 1;
                String call = "point(" + n[0] + ", " + n[1] + ", " + n[2] + ", " + n[3] + ", 0)";
                Due.is(call, x.point(n[0], n[1], n[2], n[3], 0), want);
            }
        }
        Due.is("the last POINT", x.point(5, 3, 3, 51, 0), 1);
        Due.is("points(0), all", x.points(0), 6 * 4 * 4 * 52);
    }

    private static void callsOfAnObject() {
        Due.by("An object is used for at most 512 calls after it has been made");
        ShowRights x = new ShowRights();
        for (int call = 1; call <= 508; call++) {
            Due.is("move(0, ..), call " + call, x.move(0, call % 40 + 1), call == 1 ? 0 : (call - 1) % 40 + 1);
        }
        Due.is("count(7), call 509", x.count(7), 6);
        Due.is("undo(), call 510", x.undo(), 5);
        Due.is("offer(0, 3), call 511", x.offer(0, 3), 2 + 507 % 40 + 1);
        Due.is("best(0), call 512", x.best(0), 42);
    }

    private static void tenOffers() {
        Due.by("OFFERS 0, 1, .. (10 at most)");
        ShowRights x = Due.laid(OFFER.repeat(10), 10);
        for (int i = 0; i < 10; i++) Due.is("offer(" + i + ", 6)", x.offer(i, 6), 1);
        Due.is("offer(10, 6)", x.offer(10, 6), Due.BAD);
        Due.fault(OFFER.repeat(10), Due.NONE);
        Due.fault(OFFER.repeat(11), 150);
        Due.laid(OFFER.repeat(11), Due.NO);
    }

    private static void noneEmpty() {
        Due.by("a set of LANDS, one of TONGUES, one of MEANS (bits each, none empty)");
        Due.fault("o0,1,1,0,0,0,1;", 0);
        Due.fault("o1,0,1,0,0,0,1;", 0);
        Due.fault("o1,1,0,0,0,0,1;", 0);
        Due.fault("o00,1,1,0,0,0,1;", 0);
        setsOfOneBit();
    }

    private static void setsOfOneBit() {
        for (int bit = 0; bit < 6; bit++) {
            ShowRights x = Due.signed("o" + (1 << bit) + ",15,15,9,9,0,1;", 1, 0);
            for (int land = 0; land < 6; land++) {
                Due.is("LAND " + land + " of bit " + bit, x.point(land, 0, 0, 9, 0), land == bit ? 1 : 0);
            }
        }
        for (int bit = 0; bit < 4; bit++) {
            ShowRights tongues = Due.signed("o63," + (1 << bit) + ",15,9,9,0,1;", 1, 0);
            ShowRights means = Due.signed("o63,15," + (1 << bit) + ",9,9,0,1;", 1, 0);
            for (int n = 0; n < 4; n++) {
                Due.is("TONGUE " + n + " of bit " + bit, tongues.point(0, n, 0, 9, 0), n == bit ? 1 : 0);
                Due.is("MEANS " + n + " of bit " + bit, means.point(0, 0, n, 9, 0), n == bit ? 1 : 0);
            }
        }
    }

    private static void fromFirstToLast() {
        Due.by("all WEEKS from a FIRST to a LAST one");
        int[][] spans = {{0, 0}, {0, 1}, {3, 5}, {20, 20}, {0, 51}, {1, 50}, {31, 32}, {50, 51}, {51, 51}};
        for (int[] span : spans) {
            ShowRights x = Due.signed("o1,1,1," + span[0] + "," + span[1] + ",0,1;", 1, 0);
            for (int week = 0; week <= 51; week++) {
                int want = week >= span[0] && week <= span[1] ? 1 : 0;
                Due.is("WEEK " + week + " of " + span[0] + " to " + span[1], x.point(0, 0, 0, week, 0), want);
            }
            Due.is("offer(0, 8)", x.offer(0, 8), span[1] - span[0] + 1);
        }
    }

    private static void price() {
        Due.by("for a PRICE (1 to 99)");
        Due.fault("o1,1,1,0,0,0,0;", 0);
        Due.fault("o1,1,1,0,0,0,00;", 0);
        Due.is("PRICE 1", Due.laid("o1,1,1,0,0,0,1;", 1).offer(0, 6), 1);
        Due.is("PRICE 99", Due.laid("o1,1,1,0,0,0,99;", 1).offer(0, 6), 99);
        Due.fault("o1,1,1,0,0,0,100;", 0);
    }

    private static void fourHolds() {
        Due.by("HOLDS (4 at most)");
        ShowRights none = Due.laid(OFFER, 1);
        Due.is("count(1) of none", none.count(1), 0);
        Due.is("broken(0) of none", none.broken(0), Due.BAD);
        ShowRights four = Due.laid(OFFER + HOLD.repeat(4), 1);
        Due.is("count(1) of four", four.count(1), 4);
        for (int h = 0; h < 4; h++) Due.is("broken(" + h + ")", four.broken(h), 0);
        Due.is("broken(4)", four.broken(4), Due.BAD);
        Due.fault(OFFER + HOLD.repeat(4), Due.NONE);
        Due.fault(OFFER + HOLD.repeat(5), 15 + 28);
        Due.laid(OFFER + HOLD.repeat(5), Due.NO);
    }

    private static void unlikeMeans() {
        Due.by("HOLDS tell of two unlike MEANS A and B");
        for (int a = 0; a < 4; a++) {
            for (int b = 0; b < 4; b++) Due.fault("h" + a + "," + b + ",9;", a == b ? 0 : Due.NONE);
        }
    }

    private static void twoHundredLetters() {
        Due.by("THE TEXT is letters (200 at most)");
        String whole = "o1,1,1,0,0,0,10;".repeat(10) + HOLD.repeat(4) + "t0,51;t1,50;";
        Due.is("letters of it", whole.length(), 200);
        ShowRights x = new ShowRights();
        for (int i = 0; i < 200; i++) Due.is("write, letter " + (i + 1), x.write(whole.charAt(i)), i + 1);
        Due.is("write, letter 201", x.write(';'), Due.FULL);
        Due.is("fault() of 200 letters", x.fault(), Due.NONE);
        Due.is("lay() of 200 letters", x.lay(), 10);
        Due.is("the last ITEM is read", x.count(3), 50);
        Due.fault(whole.substring(0, 199) + "x", 194);
    }

    private static void itemsAndTheirEnds() {
        Due.by("A TEXT is ITEMS one behind the other, a ; behind each");
        Due.fault("", Due.NONE);
        Due.fault(";", 0);
        Due.fault(";;", 0);
        Due.fault(";t1,2;", 0);
        Due.fault("t1,2;;", 5);
        Due.fault("t1,2;;t1,2;", 5);
        Due.fault("t1,2", 0);
        Due.fault("t1,2;h0,1,9", 5);
        Due.fault("t1,2t1,2;", 0);
        Due.fault("t1,2 ;", 0);
        Due.fault("t1,2; t1,2;", 5);
        Due.fault("t1,2; ", 5);
        Due.fault("t1,2:", 0);
        Due.fault("t1,2;t", 5);
        Due.fault("t1,2;h0,1,9;o1,1,1,0,0,0,1;", Due.NONE);
        // no other letter stands for t, o or h, whichever numbers come behind it
        for (int kind = 0; kind < KINDS.length; kind++) {
            for (char letter = 32; letter <= 126; letter++) {
                boolean same = letter == KINDS[kind].charAt(0);
                Due.fault(item(String.valueOf(letter), NUMBERS[kind]), same ? Due.NONE : 0);
            }
        }
    }

    private static final String[] KINDS = {"t", "o", "h"};
    // 0 wherever it may stand: a number without a figure must not be taken for it
    private static final String[][] NUMBERS = {
        {"0", "2"}, {"1", "1", "1", "0", "1", "0", "1"}, {"0", "1", "1"}};

    private static String item(String kind, String[] numbers) {
        return kind + String.join(",", numbers) + ";";
    }

    private static void figures() {
        Due.by("numbers have one or two figures");
        for (int kind = 0; kind < KINDS.length; kind++) {
            for (int which = 0; which < NUMBERS[kind].length; which++) {
                String one = NUMBERS[kind][which];
                String[] forms = {one, "0" + one, "", "00" + one, one + " ", " " + one, "+" + one, "-" + one, "/", ":", one + "."};
                for (int form = 0; form < forms.length; form++) {
                    String[] numbers = NUMBERS[kind].clone();
                    numbers[which] = forms[form];
                    Due.fault(item(KINDS[kind], numbers), form <= 1 ? Due.NONE : 0);
                }
            }
        }
        // the last number of a TERM, taken for 0, would be one that may stand there
        Due.fault("t0,;", 0);
        Due.fault("t00,;", 0);
        ShowRights x = Due.laid("t08,19;o09,08,07,06,10,01,05;", 1);
        int[] offer = {9, 8, 7, 6, 10, 1, 5};
        for (int what = 0; what < 7; what++) Due.is("offer(0, " + what + ")", x.offer(0, what), offer[what]);
        Due.is("count(2)", x.count(2), 8);
    }

    private static void howManyNumbers() {
        Due.by("tF,T; oL,T,M,F,E,A,P; hA,B,N;");
        String[] many = {"1", "2", "1", "2", "2", "1", "1", "1", "1", "1", "1", "1", "1", "1", "1", "1"};
        for (int kind = 0; kind < KINDS.length; kind++) {
            int due = NUMBERS[kind].length;
            Due.fault(KINDS[kind] + ";", 0);
            for (int n = 1; n <= many.length; n++) {
                // a whole ITEM ahead: numbers of it must not stand in for those that are missing
                String ahead = item(KINDS[kind], Arrays.copyOf(many, due));
                Due.fault(ahead + item(KINDS[kind], Arrays.copyOf(many, n)), n == due ? Due.NONE : ahead.length());
            }
        }
    }

    private static void term() {
        Due.by("tF,T the TERM: WEEKS F to T (0 to 51, F no more than T)");
        int[][] good = {{0, 0}, {0, 51}, {51, 51}, {50, 51}, {9, 9}, {9, 10}};
        for (int[] t : good) {
            ShowRights x = Due.laid("t" + t[0] + "," + t[1] + ";" + OFFER, 1);
            Due.is("count(2)", x.count(2), t[0]);
            Due.is("count(3)", x.count(3), t[1]);
            Due.is("points(0)", x.points(0), 96 * (t[1] - t[0] + 1));
        }
        int[][] bad = {{0, 52}, {52, 52}, {51, 52}, {10, 9}, {51, 50}, {1, 0}, {51, 0}, {0, 99}, {99, 99}, {99, 0}};
        for (int[] t : bad) Due.fault("t" + t[0] + "," + t[1] + ";", 0);
    }

    private static void termWithout() {
        Due.by("the TERM: 0,51 without");
        ShowRights x = Due.laid("t7,8;" + OFFER, 1);
        x.wipe();
        Due.write(x, OFFER);
        Due.is("lay()", x.lay(), 1);
        Due.is("count(2)", x.count(2), 0);
        Due.is("count(3)", x.count(3), 51);
    }

    private static void lastTerm() {
        Due.by("the TERM: of several the last one counts");
        ShowRights x = Due.laid("t0,9;" + OFFER + "t30,40;" + HOLD + "t10,20;", 1);
        Due.is("count(2)", x.count(2), 10);
        Due.is("count(3)", x.count(3), 20);
        Due.is("why(0), no WEEK of the first TERM", x.why(0), 2);
        Due.is("many", Due.laid("t1,2;".repeat(36) + "t3,4;" + OFFER, 1).count(3), 4);
        Due.fault("t0,9;t0,52;t0,9;", 5);
    }

    private static void offerNumbers() {
        Due.by("oL,T,M,F,E,A,P: LANDS L (1 to 63), TONGUES T, MEANS M (1 to 15 each), ALONE (A 1) or not (0), PRICE P");
        int[] low = {1, 1, 1, 0, 9, 0, 1};
        int[] high = {63, 15, 15, 9, 51, 1, 99};
        for (int which = 0; which < 7; which++) {
            for (int number = 0; number <= 99; number++) {
                String[] n = {"1", "1", "1", "9", "9", "0", "1"};
                n[which] = String.valueOf(number);
                boolean good = number >= low[which] && number <= high[which];
                Due.fault(item("o", n), good ? Due.NONE : 0);
            }
        }
        Due.is("ALONE", Due.laid("o1,1,1,0,0,1,1;", 1).offer(0, 5), 1);
        Due.is("not ALONE", Due.laid("o1,1,1,0,0,0,1;", 1).offer(0, 5), 0);
    }

    private static void offerWeeks() {
        Due.by("WEEKS F to E (0 to 51, F no more than E)");
        int[][] good = {{0, 0}, {0, 51}, {51, 51}, {50, 51}, {9, 9}, {9, 10}};
        for (int[] w : good) {
            ShowRights x = Due.laid("o1,1,1," + w[0] + "," + w[1] + ",0,1;", 1);
            Due.is("offer(0, 3)", x.offer(0, 3), w[0]);
            Due.is("offer(0, 4)", x.offer(0, 4), w[1]);
        }
        int[][] bad = {{0, 52}, {52, 52}, {51, 52}, {10, 9}, {51, 50}, {1, 0}, {51, 0}, {0, 99}, {99, 99}};
        for (int[] w : bad) Due.fault("o1,1,1," + w[0] + "," + w[1] + ",0,1;", 0);
        // WEEKS of an OFFER need not be of the TERM to be told
        Due.fault("t9,9;o1,1,1,0,51,0,1;", Due.NONE);
    }

    private static void holdNumbers() {
        Due.by("hA,B,N: A, B unlike MEANS (0 to 3), N 1 to 51");
        for (int n = 0; n <= 99; n++) {
            Due.fault("h" + n + ",0,1;", n >= 1 && n <= 3 ? Due.NONE : 0);
            Due.fault("h3," + n + ",1;", n <= 2 ? Due.NONE : 0);
            Due.fault("h0,1," + n + ";", n >= 1 && n <= 51 ? Due.NONE : 0);
        }
        Due.fault("h0,1,100;", 0);
    }

    private static void faultIsAPlace() {
        Due.by("FAULT: the place (from 0 on) of the first letter of the ITEM");
        String[] ahead = {"", "t0,1;", HOLD, OFFER, OFFER + HOLD + "t10,11;"};
        String[] faults = {"x", "t", ";", "t1", "t2,1;", "h1,1,1;", "o1,1,1,0,0,0,0;", "o1,1,1,0,0,0,1", "t1,2;;;"};
        for (String first : ahead) {
            for (String fault : faults) {
                int more = fault.equals("t1,2;;;") ? 5 : 0;
                Due.fault(first + fault, first.length() + more);
            }
        }
    }

    private static void faultIsTheFirst() {
        Due.by("FAULT: of the first ITEM that is not so");
        Due.fault("t2,1;h1,1,1;", 0);
        Due.fault("t1,2;h1,1,1;t2,1;x;", 5);
        Due.fault(OFFER + "t2,1;" + OFFER + "t2,1;", 15);
        Due.fault(OFFER + "o0,1,1,0,0,0,1;" + OFFER.repeat(9), 15);
    }

    private static void faultOfOneTooMany() {
        Due.by("FAULT: (or is one too many)");
        Due.fault(OFFER.repeat(12), 150);
        Due.fault(OFFER.repeat(10) + HOLD.repeat(4) + "t0,1;", Due.NONE);
        Due.fault(OFFER.repeat(10) + HOLD.repeat(4) + OFFER, 178);
        Due.fault(OFFER.repeat(10) + HOLD.repeat(4) + HOLD, 178);
        Due.fault(HOLD.repeat(4) + OFFER + HOLD + "t1,0;", 43);
        Due.fault(OFFER.repeat(10) + "t1,0;" + OFFER, 150);
        Due.fault("t0,1;".repeat(40), Due.NONE);
        // what was read for an earlier FAULT counts no more
        ShowRights x = new ShowRights();
        Due.write(x, OFFER.repeat(10) + HOLD.repeat(4));
        Due.is("fault()", x.fault(), Due.NONE);
        Due.is("fault() again", x.fault(), Due.NONE);
    }

    private static void laidNeedsAnOffer() {
        Due.by("LAID is a TEXT without FAULT with an OFFER at least (NO else)");
        String[] refused = {"", "t1,2;", HOLD, "t1,2;" + HOLD.repeat(4), "x", OFFER + "x", OFFER + ";", "t2,1;" + OFFER,
            OFFER + "h1,1,1;", "o1,1,1,0,0,0,1", OFFER.repeat(11), OFFER + HOLD.repeat(5)};
        for (String text : refused) Due.laid(text, Due.NO);
        Due.laid(OFFER, 1);
        Due.laid(HOLD + OFFER + "t1,2;", 1);
        Due.laid(OFFER + OFFER, 2);
    }

    private static void laidAtFirst() {
        Due.by("LAID: at first t2,48;o3,1,1,2,10,1,40; ..");
        String text = "t2,48;o3,1,1,2,10,1,40;o3,3,2,20,40,0,25;o6,1,2,30,48,1,30;o1,2,12,8,51,0,9;o32,15,15,2,48,0,60;"
                + "o35,1,4,15,20,0,12;h1,0,12;h2,0,20;";
        ShowRights first = new ShowRights();
        ShowRights laid = Due.laid(text, 6);
        for (int i = -1; i <= 6; i++) {
            for (int what = 0; what <= 8; what++) {
                Due.is("offer(" + i + ", " + what + ")", first.offer(i, what), laid.offer(i, what));
            }
        }
        for (int what = 0; what <= 7; what++) Due.is("count(" + what + ")", first.count(what), laid.count(what));
        // N of the HOLDS: 12 WEEKS from 8 to 20 are enough, 11 are not; 20 WEEKS from 2 to 22 are the first that are
        Due.is("broken(2)", first.broken(2), Due.BAD);
        Due.is("move(0, 6)", first.move(0, 6), 0);
        Due.is("sign(0)", first.sign(0), 1);
        Due.is("why(1), 12 WEEKS behind", first.why(1), 0);
        Due.is("drop(0)", first.drop(0), 0);
        Due.is("move(0, 7)", first.move(0, 7), 6);
        Due.is("sign(0)", first.sign(0), 1);
        Due.is("why(1), 11 WEEKS behind", first.why(1), 4);
        ShowRights second = new ShowRights();
        Due.is("sign(0)", second.sign(0), 1);
        Due.is("soonest(5), 20 WEEKS behind", second.soonest(5), 7);
    }

    private static void laidUnsignedUnmoved() {
        Due.by("LAID: none is SIGNED, none moved");
        ShowRights x = Due.laid("o1,1,1,3,4,0,5;o2,1,1,3,4,0,5;o1,1,2,3,4,0,5;h1,0,9;", 3);
        for (int time = 0; time < 3; time++) {
            Due.is("sign(0)", x.sign(0), 1);
            Due.is("move(1, 9)", x.move(1, 9), 0);
            Due.is("move(2, 47)", x.move(2, 47), 0);
            Due.is("lay() again", x.lay(), 3);
            for (int i = 0; i < 3; i++) {
                Due.is("offer(" + i + ", 3)", x.offer(i, 3), 3);
                Due.is("offer(" + i + ", 4)", x.offer(i, 4), 4);
                Due.is("offer(" + i + ", 7)", x.offer(i, 7), 0);
            }
            Due.is("count(4)", x.count(4), 0);
            Due.is("points(1)", x.points(1), 0);
            Due.is("begin(0, 0)", x.begin(0, 0), Due.NONE);
            Due.is("soonest(2), from 0 on", x.soonest(2), 0);
        }
    }
}
