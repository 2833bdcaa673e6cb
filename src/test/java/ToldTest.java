/** Promises 1 to 5: a new object, write, wipe, fault, lay. */
public final class ToldTest {
    public static void main(String[] args) {
        newObject();
        write();
        wipe();
        faultOfForm();
        faultOfTerm();
        faultOfOffer();
        faultOfHold();
        faultPlaces();
        faultOneTooMany();
        faultChangesNothing();
        lay();
        layRefused();
        layForgets();
        termCounts();
        Due.end();
    }

    private static void newObject() {
        ShowRights x = new ShowRights();
        int[][] offers = {
            {3, 1, 1, 2, 10, 1, 40, 0, 18}, {3, 3, 2, 20, 40, 0, 25, 0, 84}, {6, 1, 2, 30, 48, 1, 30, 0, 38},
            {1, 2, 12, 8, 51, 0, 9, 0, 88}, {32, 15, 15, 2, 48, 0, 60, 0, 752}, {35, 1, 4, 15, 20, 0, 12, 0, 18}};
        for (int i = 0; i < offers.length; i++) {
            for (int what = 0; what < offers[i].length; what++) {
                Due.is("1: offer(" + i + ", " + what + ")", x.offer(i, what), offers[i][what]);
            }
        }
        int[] counts = {6, 2, 2, 48, 0, 0, 1, 0, 0};
        for (int what = 0; what < counts.length; what++) {
            Due.is("1: count(" + what + ")", x.count(what), counts[what]);
        }
        Due.is("1: undo()", x.undo(), Due.NO);
        Due.is("1: fault()", x.fault(), Due.NONE);
        Due.is("1: lay()", x.lay(), Due.NO);
        Due.is("1: wipe()", x.wipe(), 0);
        // the HOLDS that are there at first: 1 behind 0 by 12 WEEKS, 2 behind 0 by 20
        Due.is("1: sign(0)", x.sign(0), 1);
        Due.is("1: soonest(5)", x.soonest(5), 7);
        Due.is("1: move(5, 6)", x.move(5, 6), 0);
        Due.is("1: why(5)", x.why(5), 4);
        Due.is("1: begin(0, 1)", x.begin(0, 1), Due.NONE);
    }

    private static void write() {
        ShowRights x = new ShowRights();
        int[] bad = {31, 127, 0, -1, 10, 255, 256 + 65, 65536 + 65, Integer.MAX_VALUE, Integer.MIN_VALUE};
        for (int letter : bad) Due.is("2: write(" + letter + ")", x.write(letter), Due.BAD);
        Due.is("2: count(8)", x.count(8), 0);
        for (int letter = 32; letter <= 126; letter++) {
            Due.is("2: write(" + letter + ")", x.write(letter), letter - 31);
        }
        for (int length = 96; length <= 200; length++) Due.is("2: write(59)", x.write(59), length);
        Due.is("2: write(59) behind 200", x.write(59), Due.FULL);
        Due.is("2: write(31) behind 200", x.write(31), Due.BAD);
        Due.is("2: count(8)", x.count(8), 200);
        Due.is("2: wipe()", x.wipe(), 200);
        Due.is("2: write(59)", x.write(59), 1);
    }

    private static void wipe() {
        ShowRights x = new ShowRights();
        Due.is("3: wipe() of none", x.wipe(), 0);
        Due.write(x, "t1,2;");
        Due.is("3: wipe()", x.wipe(), 5);
        Due.is("3: count(8)", x.count(8), 0);
        Due.is("3: wipe() again", x.wipe(), 0);
        Due.is("3: fault()", x.fault(), Due.NONE);
        Due.is("3: what is LAID stays", x.count(0), 6);
        Due.write(x, "o1,1,1,0,0,0,1;");
        Due.is("3: lay()", x.lay(), 1);
        Due.is("3: sign(0)", x.sign(0), 1);
        Due.is("3: wipe()", x.wipe(), 15);
        Due.is("3: what is LAID stays", x.count(0), 1);
        Due.is("3: what is SIGNED stays", x.count(4), 1);
        Due.is("3: what can be UNDONE stays", x.count(7), 1);
    }

    private static void fault(String text, int want) {
        ShowRights x = new ShowRights();
        Due.write(x, text);
        Due.is("4: fault() of " + text, x.fault(), want);
        Due.is("4: count(8) of " + text, x.count(8), text.length());
    }

    private static void faultOfForm() {
        fault("", Due.NONE);
        fault(";", 0);
        fault("t", 0);
        fault("t;", 0);
        fault("t1,2", 0);
        fault("t1,2;", Due.NONE);
        fault("t01,02;", Due.NONE);
        fault("t00,00;", Due.NONE);
        fault("t001,2;", 0);
        fault("t1,002;", 0);
        fault("t1,;", 0);
        fault("t0,;", 0);
        fault("t,1;", 0);
        fault("t,;", 0);
        fault("t1;", 0);
        fault("t1,2,3;", 0);
        fault("t1,2,;", 0);
        fault("t1,,2;", 0);
        fault("t1 ,2;", 0);
        fault(" t1,2;", 0);
        fault("t1,2 ;", 0);
        fault("t-1,2;", 0);
        fault("t+1,2;", 0);
        fault("T1,2;", 0);
        fault("1,2;", 0);
        fault("tt1,2;", 0);
        fault("t1.2;", 0);
        fault("t1,2:", 0);
        fault("t1,/;", 0);
        fault("x1,2;", 0);
        fault("o1,1,1,0,0,0;", 0);
        fault("o1,1,1,0,0,0,1,1;", 0);
        fault("o1,1,1,0,0,0,1,1,1,1,1,1;", 0);
        fault("o1,1,1,0,0,0,1,;", 0);
        fault("h0,1;", 0);
        fault("h0,1,2,3;", 0);
    }

    private static void faultOfTerm() {
        fault("t0,51;", Due.NONE);
        fault("t0,52;", 0);
        fault("t51,51;", Due.NONE);
        fault("t52,52;", 0);
        fault("t7,7;", Due.NONE);
        fault("t8,7;", 0);
        fault("t1,2;t3,4;t0,0;", Due.NONE);
    }

    private static void faultOfOffer() {
        fault("o1,1,1,0,0,0,1;", Due.NONE);
        fault("o63,15,15,51,51,1,99;", Due.NONE);
        fault("o01,01,01,00,00,00,01;", Due.NONE);
        fault("o0,1,1,0,0,0,1;", 0);
        fault("o64,1,1,0,0,0,1;", 0);
        fault("o1,0,1,0,0,0,1;", 0);
        fault("o1,16,1,0,0,0,1;", 0);
        fault("o1,1,0,0,0,0,1;", 0);
        fault("o1,1,16,0,0,0,1;", 0);
        fault("o1,1,1,1,0,0,1;", 0);
        fault("o1,1,1,0,52,0,1;", 0);
        fault("o1,1,1,52,52,0,1;", 0);
        fault("o1,1,1,0,0,2,1;", 0);
        fault("o1,1,1,0,0,0,0;", 0);
        fault("o1,1,1,0,0,0,100;", 0);
    }

    private static void faultOfHold() {
        fault("h0,1,1;", Due.NONE);
        fault("h3,2,51;", Due.NONE);
        fault("h2,2,1;", 0);
        fault("h4,1,1;", 0);
        fault("h1,4,1;", 0);
        fault("h0,1,0;", 0);
        fault("h0,1,52;", 0);
        fault("h0,1,1;h0,1,1;h1,0,1;h1,0,1;", Due.NONE);
    }

    private static void faultPlaces() {
        fault("t1,2;;", 5);
        fault("t1,2;;t", 5);
        fault("t1,2; ", 5);
        fault("t1,2;t3,2;t9,1;", 5);
        fault("t1,2;t3,4", 5);
        fault("h0,1,5;o1,1,1,0,0,0,1;h1,1,5;", 22);
        fault("h0,1,5;o1,1,1,0,0,0,1;x", 22);
        fault("o1,1,1,0,0,0,1;o1,1,1,0,0,0,1t1,2;", 15);
    }

    private static void faultOneTooMany() {
        String ten = "o1,1,1,0,0,0,1;".repeat(10);
        fault(ten, Due.NONE);
        fault(ten + "o1,1,1,0,0,0,1;", 150);
        fault(ten + "h0,1,1;o1,1,1,0,0,0,1;", 157);
        fault(ten + "t0,1;o1,1,1,0,0,0,1;h1,1,1;", 155);
        String four = "h0,1,1;".repeat(4);
        fault(four, Due.NONE);
        fault(four + "h0,1,1;", 28);
        fault(four + "o1,1,1,0,0,0,1;h0,1,1;", 43);
        fault("t1,1;".repeat(40), Due.NONE);
    }

    private static void faultChangesNothing() {
        ShowRights x = new ShowRights();
        x.sign(0);
        x.move(1, 3);
        Due.write(x, "t5,6;o1,1,1,5,6,0,9;h0,1,1;");
        Due.is("4: fault()", x.fault(), Due.NONE);
        Due.is("4: fault() again", x.fault(), Due.NONE);
        int[] counts = {6, 2, 2, 48, 1, 40, 1, 2, 27};
        for (int what = 0; what < counts.length; what++) {
            Due.is("4: count(" + what + ") behind fault()", x.count(what), counts[what]);
        }
        Due.is("4: offer(1, 3) behind fault()", x.offer(1, 3), 23);
    }

    private static void lay() {
        ShowRights x = Due.laid("o7,3,5,10,19,1,33;h3,1,9;t4,40;o63,15,15,0,51,0,99;", 2);
        int[][] offers = {{7, 3, 5, 10, 19, 1, 33, 0, 120}, {63, 15, 15, 0, 51, 0, 99, 0, 4992}};
        for (int i = 0; i < offers.length; i++) {
            for (int what = 0; what < offers[i].length; what++) {
                Due.is("5: offer(" + i + ", " + what + ")", x.offer(i, what), offers[i][what]);
            }
        }
        int[] counts = {2, 1, 4, 40, 0, 0, 1, 0, 51};
        for (int what = 0; what < counts.length; what++) {
            Due.is("5: count(" + what + ")", x.count(what), counts[what]);
        }
        Due.is("5: offer(2, 0)", x.offer(2, 0), Due.BAD);
        Due.is("5: lay() again", x.lay(), 2);
        Due.laid("o1,1,1,0,0,0,1;".repeat(10) + "h0,1,1;".repeat(4), 10);
    }

    private static void layRefused() {
        String[] texts = {"", "t1,2;", "h0,1,1;", "o1,1,1,0,0,0,1", "o1,1,1,0,0,0,1;;", "o1,1,1,0,0,0,1;h1,1,1;"};
        for (String text : texts) {
            ShowRights x = new ShowRights();
            x.sign(0);
            x.move(1, 3);
            Due.write(x, text);
            Due.is("5: lay() of " + text, x.lay(), Due.NO);
            int[] counts = {6, 2, 2, 48, 1, 40, 1, 2, text.length()};
            for (int what = 0; what < counts.length; what++) {
                Due.is("5: count(" + what + ") behind NO for " + text, x.count(what), counts[what]);
            }
            Due.is("5: offer(1, 3) behind NO for " + text, x.offer(1, 3), 23);
            Due.is("5: undo() behind NO for " + text, x.undo(), 1);
        }
    }

    private static void layForgets() {
        ShowRights x = Due.laid("o1,1,1,3,4,0,5;o2,1,1,3,4,0,5;", 2);
        Due.is("5: sign(0)", x.sign(0), 1);
        Due.is("5: move(1, 9)", x.move(1, 9), 0);
        Due.is("5: lay() again", x.lay(), 2);
        Due.is("5: none SIGNED", x.count(4), 0);
        Due.is("5: none MOVED", x.offer(1, 3), 3);
        Due.is("5: none UNDONE", x.undo(), Due.NO);
        Due.is("5: count(7)", x.count(7), 0);
        // a third time: the same OFFERS have to be unmoved whichever book they are read into
        Due.is("5: move(1, 7)", x.move(1, 7), 0);
        Due.is("5: lay() a third time", x.lay(), 2);
        Due.is("5: none MOVED", x.offer(1, 3), 3);
        Due.is("5: move(1, 8)", x.move(1, 8), 0);
    }

    private static void termCounts() {
        ShowRights without = Due.laid("o1,1,1,0,51,0,1;", 1);
        Due.is("5: count(2) without a TERM", without.count(2), 0);
        Due.is("5: count(3) without a TERM", without.count(3), 51);
        Due.is("5: why(0)", without.why(0), 0);
        ShowRights last = Due.laid("t1,9;o1,1,1,30,40,0,1;t20,45;", 1);
        Due.is("5: count(2), the last TERM", last.count(2), 20);
        Due.is("5: count(3), the last TERM", last.count(3), 45);
        Due.is("5: why(0), the last TERM", last.why(0), 0);
        // a TERM of an earlier TEXT counts no more
        last.wipe();
        Due.write(last, "o1,1,1,0,51,0,1;");
        Due.is("5: lay()", last.lay(), 1);
        Due.is("5: count(2), no TERM again", last.count(2), 0);
        Due.is("5: count(3), no TERM again", last.count(3), 51);
        Due.is("5: count(1), no HOLD", last.count(1), 0);
    }
}
