/** The boundary cases that the document's promises 1 to 23 name, promise by promise. */
public final class CallEdgesTest {
    private static final String TEN = "o32,8,8,9,9,0,3;".repeat(10) + "h3,2,1;".repeat(4);
    private static final String ONE = "t9,9;o1,1,1,9,9,0,1;";

    public static void main(String[] args) {
        newObject();
        write();
        wipe();
        fault();
        lay();
        sign();
        why();
        clash();
        drop();
        move();
        soonest();
        undo();
        offer();
        common();
        begin();
        broken();
        point();
        points();
        window();
        longest();
        best();
        take();
        count();
        Due.end();
    }

    /** Objects with the fewest and the most OFFERS and HOLDS that there can be, and a new one. */
    private static ShowRights[] objects() {
        return new ShowRights[] {new ShowRights(), Due.laid(ONE, 1), Due.laid(TEN, 10)};
    }

    /** The numbers that are BAD where 0 to high are asked for. */
    private static int[] beyond(int high) {
        int[] numbers = new int[Due.WILD.length + 4];
        System.arraycopy(Due.WILD, 0, numbers, 0, Due.WILD.length);
        numbers[Due.WILD.length] = high + 1;
        numbers[Due.WILD.length + 1] = high + 2;
        // a shift by 32 more is the same shift
        numbers[Due.WILD.length + 2] = high + 32 > 51 ? high + 64 : high + 32;
        numbers[Due.WILD.length + 3] = -1 - high;
        return numbers;
    }

    private static void newObject() {
        Due.by("1: As told; THE TEXT is empty");
        ShowRights x = new ShowRights();
        Due.is("count(8)", x.count(8), 0);
        Due.is("fault()", x.fault(), Due.NONE);
        Due.is("lay()", x.lay(), Due.NO);
        Due.is("wipe()", x.wipe(), 0);
        Due.is("write('t')", x.write('t'), 1);
        int[] counts = {6, 2, 2, 48, 0, 0, 1, 0, 1};
        for (int what = 0; what <= 8; what++) Due.is("count(" + what + ")", x.count(what), counts[what]);
        // one object knows nothing of another
        Due.is("sign(0)", x.sign(0), 1);
        ShowRights y = new ShowRights();
        Due.is("another: count(4)", y.count(4), 0);
        Due.is("another: count(8)", y.count(8), 0);
        Due.is("another: sign(0)", y.sign(0), 1);
    }

    private static void write() {
        Due.by("2: A letter (32 to 126, as in ASCII): how long it is. BAD");
        ShowRights x = new ShowRights();
        int length = 0;
        for (int letter = -1; letter <= 200; letter++) {
            boolean good = letter >= 32 && letter <= 126;
            if (good) length++;
            Due.is("write(" + letter + ")", x.write(letter), good ? length : Due.BAD);
        }
        int[] wrapped = {256 + 't', 65536 + 't', -65536 + 't', Integer.MIN_VALUE + 't', Integer.MAX_VALUE, Integer.MIN_VALUE};
        for (int letter : wrapped) Due.is("write(" + letter + ")", x.write(letter), Due.BAD);
        Due.is("count(8)", x.count(8), 95);
        Due.by("2: FULL: it has 200");
        while (length < 199) length = x.write('x');
        Due.is("the 200th", x.write(126), 200);
        Due.is("the 201st", x.write(126), Due.FULL);
        Due.is("the 201st again", x.write(32), Due.FULL);
        Due.is("BAD goes ahead of FULL", x.write(127), Due.BAD);
        Due.is("BAD goes ahead of FULL", x.write(31), Due.BAD);
        Due.is("count(8)", x.count(8), 200);
        Due.is("wipe()", x.wipe(), 200);
        Due.is("not FULL any more", x.write(126), 1);
    }

    private static void wipe() {
        Due.by("3: THE TEXT is empty: how long it was");
        ShowRights x = new ShowRights();
        Due.is("wipe() of an empty one", x.wipe(), 0);
        x.write(';');
        Due.is("fault()", x.fault(), 0);
        Due.is("wipe() of one letter", x.wipe(), 1);
        Due.is("wipe() again", x.wipe(), 0);
        Due.is("fault(), nothing is there", x.fault(), Due.NONE);
        Due.is("lay(), nothing is there", x.lay(), Due.NO);
        // a shorter one ends where it ends, whatever stood there
        Due.write(x, "t1,2;o1,1,1,0,0,0,1;");
        x.wipe();
        Due.write(x, "t3,4;");
        Due.is("fault()", x.fault(), Due.NONE);
        Due.is("lay(), no OFFER", x.lay(), Due.NO);
    }

    private static void fault() {
        Due.by("4: FAULT. NONE");
        Due.fault("", Due.NONE);
        Due.fault("t0,1;", Due.NONE);
        Due.fault("x", 0);
        Due.fault("t0,1;x", 5);
        Due.fault("x".repeat(200), 0);
        Due.fault("t0,1;".repeat(39) + "t0,1x", 195);
        Due.fault("t0,1;".repeat(39) + "t00,1", 195);
        Due.fault("t0,1;".repeat(40), Due.NONE);
        Due.fault("t10,11;".repeat(28) + "t1,;", 196);
        Due.fault("t10,11;".repeat(28) + "t1,2", 196);
        Due.fault("t0,1;".repeat(38) + "t10,11;" + ";;;", 197);
    }

    private static void lay() {
        Due.by("5: LAID: how many OFFERS. NO");
        for (int many = 1; many <= 10; many++) {
            ShowRights x = Due.laid("o1,1,1,0,0,0,1;".repeat(many), many);
            Due.is("count(0)", x.count(0), many);
            Due.is("why(" + many + ")", x.why(many), Due.BAD);
            Due.is("why(" + (many - 1) + ")", x.why(many - 1), 0);
        }
        Due.laid("o1,1,1,0,0,0,1;".repeat(11), Due.NO);
        Due.laid("", Due.NO);
        Due.laid("t0,1;h0,1,1;", Due.NO);
        // fewer OFFERS and HOLDS than ahead: those that were more are there no more
        ShowRights x = Due.laid(TEN, 10);
        x.wipe();
        Due.write(x, ONE);
        Due.is("lay() of one", x.lay(), 1);
        Due.is("count(1)", x.count(1), 0);
        Due.is("offer(1, 0)", x.offer(1, 0), Due.BAD);
        Due.is("broken(0)", x.broken(0), Due.BAD);
        Due.is("best(1)", x.best(1), 1);
    }

    private static void sign() {
        Due.by("6: An OFFER is SIGNED: how many are then. BAD; NO: something speaks against it");
        for (ShowRights x : objects()) {
            for (int i : beyond(x.count(0) - 1)) Due.is("sign(" + i + ")", x.sign(i), Due.BAD);
            Due.is("count(7)", x.count(7), 0);
        }
        ShowRights ten = Due.laid(TEN, 10);
        for (int i = 9; i >= 0; i--) Due.is("sign(" + i + ")", ten.sign(i), 10 - i);
        ShowRights x = Due.signed("t0,20;o1,1,1,0,0,1,1;o1,1,1,20,21,0,1;o1,1,1,0,0,0,1;o1,2,2,1,1,0,1;o2,2,2,1,1,0,1;h1,0,2;", 5, 0);
        Due.is("1: sign(0)", x.sign(0), Due.NO);
        Due.is("2: sign(1)", x.sign(1), Due.NO);
        Due.is("3: sign(2)", x.sign(2), Due.NO);
        Due.is("4: sign(3)", x.sign(3), Due.NO);
        Due.is("0: sign(4)", x.sign(4), 2);
    }

    private static void why() {
        Due.by("7: What speaks against an OFFER (0: nothing). BAD");
        for (ShowRights x : objects()) {
            for (int i : beyond(x.count(0) - 1)) Due.is("why(" + i + ")", x.why(i), Due.BAD);
            Due.is("why(0)", x.why(0), 0);
        }
        ShowRights x = new ShowRights();
        int[] due = {0, 0, 0, 2, 4, 0};
        for (int i = 0; i < 6; i++) Due.is("why(" + i + ")", x.why(i), due[i]);
        Due.is("take()", x.take(), 2);
        int[] taken = {1, 3, 1, 2, 4, 4};
        for (int i = 0; i < 6; i++) Due.is("why(" + i + ")", x.why(i), taken[i]);
    }

    private static void clash() {
        Due.by("8: The lowest OFFER that is SIGNED, another one, with which an OFFER CLASHES. BAD; NONE");
        for (ShowRights x : objects()) {
            for (int i : beyond(x.count(0) - 1)) Due.is("clash(" + i + ")", x.clash(i), Due.BAD);
            Due.is("clash(0), none is SIGNED", x.clash(0), Due.NONE);
        }
        String text = "o1,1,1,0,0,1,1;".repeat(3) + "o2,1,1,0,0,0,1;".repeat(5) + "o4,1,1,0,0,1,1;o7,1,1,0,0,0,1;";
        ShowRights x = Due.laid(text, 10);
        Due.is("sign(8)", x.sign(8), 1);
        Due.is("clash(9), one behind", x.clash(9), 8);
        Due.is("clash(8), itself", x.clash(8), Due.NONE);
        Due.is("sign(2)", x.sign(2), 2);
        Due.is("clash(9), the lower one", x.clash(9), 2);
        Due.is("clash(0), a higher one", x.clash(0), 2);
        Due.is("clash(3)", x.clash(3), Due.NONE);
        Due.is("drop(2)", x.drop(2), 1);
        Due.is("sign(0)", x.sign(0), 2);
        Due.is("clash(9), the lowest one", x.clash(9), 0);
        Due.is("clash(0), itself", x.clash(0), Due.NONE);
    }

    private static void drop() {
        Due.by("9: An OFFER is given up: how many are SIGNED then. BAD; NO: it is not");
        for (ShowRights x : objects()) {
            for (int i : beyond(x.count(0) - 1)) Due.is("drop(" + i + ")", x.drop(i), Due.BAD);
            for (int i = 0; i < x.count(0); i++) Due.is("drop(" + i + ")", x.drop(i), Due.NO);
        }
        ShowRights x = Due.signed(TEN, 10, 0, 1, 2, 3, 4, 5, 6, 7, 8, 9);
        for (int i = 0; i < 10; i++) {
            Due.is("drop(" + i + ")", x.drop(i), 9 - i);
            Due.is("drop(" + i + ") again", x.drop(i), Due.NO);
        }
    }

    private static void move() {
        Due.by("10: MOVED by d (0 to 51) WEEKS: by how many it was. BAD");
        for (ShowRights x : objects()) {
            for (int i : beyond(x.count(0) - 1)) Due.is("move(" + i + ", 1)", x.move(i, 1), Due.BAD);
            for (int d : beyond(51)) Due.is("move(0, " + d + ")", x.move(0, d), Due.BAD);
            Due.is("move(0, 1)", x.move(0, 1), 0);
            Due.is("move(0, 2)", x.move(0, 2), 1);
            Due.is("move(0, 0)", x.move(0, 0), 2);
        }
        Due.by("10: NO: it is SIGNED, it is MOVED by that, LAST would be above 51");
        ShowRights x = Due.laid("o1,1,1,0,10,0,1;", 1);
        Due.is("move(0, 0), it is", x.move(0, 0), Due.NO);
        Due.is("move(0, 42), LAST 52", x.move(0, 42), Due.NO);
        Due.is("move(0, 51), LAST 61", x.move(0, 51), Due.NO);
        Due.is("move(0, 41), LAST 51", x.move(0, 41), 0);
        Due.is("move(0, 41), it is", x.move(0, 41), Due.NO);
        Due.is("sign(0)", x.sign(0), 1);
        Due.is("move(0, 40), SIGNED", x.move(0, 40), Due.NO);
        Due.is("BAD goes ahead of NO", x.move(0, 52), Due.BAD);
        Due.is("BAD goes ahead of NO", x.move(0, -1), Due.BAD);
        Due.is("BAD twice", x.move(1, 52), Due.BAD);
    }

    private static void soonest() {
        Due.by("11: SOONEST. BAD; NO: it is SIGNED; NONE");
        for (ShowRights x : objects()) {
            for (int i : beyond(x.count(0) - 1)) Due.is("soonest(" + i + ")", x.soonest(i), Due.BAD);
            Due.is("soonest(0)", x.soonest(0), 0);
            Due.is("sign(0)", x.sign(0), 1);
            Due.is("soonest(0), SIGNED", x.soonest(0), Due.NO);
        }
        ShowRights x = Due.laid("t9,9;o1,1,1,9,9,1,1;o1,1,1,9,9,0,1;o1,1,1,0,0,0,1;o1,1,1,10,10,0,1;o1,1,1,8,9,0,1;", 5);
        int[] free = {0, 0, 9, Due.NONE, Due.NONE};
        for (int i = 0; i < 5; i++) Due.is("soonest(" + i + ")", x.soonest(i), free[i]);
        Due.is("sign(0)", x.sign(0), 1);
        int[] sold = {Due.NO, Due.NONE, Due.NONE, Due.NONE, Due.NONE};
        for (int i = 0; i < 5; i++) Due.is("soonest(" + i + "), 0 is SIGNED", x.soonest(i), sold[i]);
    }

    private static void undo() {
        Due.by("12: UNDONE: how many more can be. NO");
        for (ShowRights x : objects()) {
            Due.is("undo() of none", x.undo(), Due.NO);
            Due.is("move(0, 3)", x.move(0, 3), 0);
            Due.is("undo()", x.undo(), 0);
            Due.is("undo() of no more", x.undo(), Due.NO);
        }
        ShowRights x = Due.laid(TEN, 10);
        for (int i = 0; i < 10; i++) x.sign(i);
        for (int more = 5; more >= 0; more--) {
            Due.is("undo()", x.undo(), more);
            Due.is("count(4)", x.count(4), more + 4);
            Due.is("offer(" + (more + 4) + ", 7)", x.offer(more + 4, 7), 0);
        }
        Due.is("undo() of a seventh", x.undo(), Due.NO);
        Due.is("count(4)", x.count(4), 4);
    }

    private static void offer() {
        Due.by("13: Of an OFFER: LANDS (what = 0) .. how many POINTS (8; WEEKS of the TERM or not). BAD");
        for (ShowRights x : objects()) {
            for (int what = 0; what <= 8; what++) {
                for (int i : beyond(x.count(0) - 1)) Due.is("offer(" + i + ", " + what + ")", x.offer(i, what), Due.BAD);
            }
            for (int i = 0; i < x.count(0); i++) {
                for (int what : beyond(8)) Due.is("offer(" + i + ", " + what + ")", x.offer(i, what), Due.BAD);
            }
        }
        ShowRights x = Due.laid("t9,9;o63,15,15,0,51,1,99;o1,1,1,51,51,0,1;o21,5,9,7,9,0,50;", 3);
        int[][] due = {{63, 15, 15, 0, 51, 1, 99, 0, 4992}, {1, 1, 1, 51, 51, 0, 1, 0, 1}, {21, 5, 9, 7, 9, 0, 50, 0, 36}};
        for (int i = 0; i < 3; i++) {
            for (int what = 0; what <= 8; what++) Due.is("offer(" + i + ", " + what + ")", x.offer(i, what), due[i][what]);
        }
        Due.is("move(2, 42)", x.move(2, 42), 0);
        int[] moved = {21, 5, 9, 49, 51, 0, 50, 0, 36};
        for (int what = 0; what <= 8; what++) Due.is("offer(2, " + what + "), as it is MOVED", x.offer(2, what), moved[what]);
    }

    private static void common() {
        Due.by("14: How many POINTS two OFFERS have in common (WEEKS of the TERM or not). BAD (one twice, too)");
        for (ShowRights x : objects()) {
            for (int i : beyond(x.count(0) - 1)) {
                Due.is("common(" + i + ", 0)", x.common(i, 0), Due.BAD);
                Due.is("common(0, " + i + ")", x.common(0, i), Due.BAD);
                Due.is("common(" + i + ", " + i + ")", x.common(i, i), Due.BAD);
            }
            for (int i = 0; i < x.count(0); i++) Due.is("common(" + i + ", " + i + ")", x.common(i, i), Due.BAD);
        }
        ShowRights x = Due.laid("t0,0;o63,15,15,0,51,0,1;o63,15,15,0,51,0,1;o32,8,8,51,51,0,1;o32,8,8,50,50,0,1;", 4);
        Due.is("common(0, 1), all POINTS", x.common(0, 1), 4992);
        Due.is("common(2, 1), one POINT", x.common(2, 1), 1);
        Due.is("common(2, 3), none", x.common(2, 3), 0);
        Due.is("move(3, 1)", x.move(3, 1), 0);
        Due.is("common(3, 2), as it is MOVED", x.common(3, 2), 1);
    }

    private static void begin() {
        Due.by("15: BEGIN of a MEANS in a LAND. BAD; NONE");
        for (ShowRights x : objects()) {
            for (int land : beyond(5)) Due.is("begin(" + land + ", 0)", x.begin(land, 0), Due.BAD);
            for (int means : beyond(3)) Due.is("begin(0, " + means + ")", x.begin(0, means), Due.BAD);
            Due.is("begin(6, 4)", x.begin(6, 4), Due.BAD);
            Due.is("begin(5, 3), none is SIGNED", x.begin(5, 3), Due.NONE);
        }
        ShowRights x = Due.signed(TEN, 10, 9);
        Due.is("begin(5, 3)", x.begin(5, 3), 9);
        Due.is("begin(4, 3), another LAND", x.begin(4, 3), Due.NONE);
        Due.is("begin(5, 2), another MEANS", x.begin(5, 2), Due.NONE);
        Due.is("BAD goes ahead of NONE", x.begin(6, 2), Due.BAD);
    }

    private static void broken() {
        Due.by("16: LANDS in which a HOLD is not KEPT now, as bits. BAD");
        for (ShowRights x : objects()) {
            for (int h : beyond(x.count(1) - 1)) Due.is("broken(" + h + ")", x.broken(h), Due.BAD);
            for (int h = 0; h < x.count(1); h++) Due.is("broken(" + h + ")", x.broken(h), 0);
        }
        String text = "o63,1,1,0,0,0,1;o63,1,1,9,9,0,1;o63,1,2,10,10,0,1;h2,3,1;h2,3,1;h2,3,1;h1,0,2;";
        ShowRights all = Due.signed(text, 3, 0, 1, 2);
        Due.is("broken(3), KEPT in all", all.broken(3), 0);
        Due.is("drop(0)", all.drop(0), 2);
        Due.is("broken(3), in none", all.broken(3), 63);
        Due.is("broken(2)", all.broken(2), 0);
        Due.is("undo()", all.undo(), 3);
        Due.is("broken(3), as it is now", all.broken(3), 0);
    }

    private static void point() {
        Due.by("17: Of a POINT: how many OFFERS (what = 0), 1 if it is ALONE, else 0 (1). BAD (a WEEK that is not of the TERM, too)");
        for (ShowRights x : objects()) {
            for (int land : beyond(5)) Due.is("point(" + land + ", 0, 0, 9, 0)", x.point(land, 0, 0, 9, 0), Due.BAD);
            for (int n : beyond(3)) {
                Due.is("point(0, " + n + ", 0, 9, 0)", x.point(0, n, 0, 9, 0), Due.BAD);
                Due.is("point(0, 0, " + n + ", 9, 0)", x.point(0, 0, n, 9, 0), Due.BAD);
            }
            for (int week : beyond(51)) Due.is("point(0, 0, 0, " + week + ", 0)", x.point(0, 0, 0, week, 0), Due.BAD);
            for (int what : beyond(1)) Due.is("point(0, 0, 0, 9, " + what + ")", x.point(0, 0, 0, 9, what), Due.BAD);
        }
        int[][] terms = {{0, 51}, {2, 48}, {0, 0}, {51, 51}, {31, 33}};
        for (int[] term : terms) {
            ShowRights x = Due.laid("t" + term[0] + "," + term[1] + ";o1,1,1,0,0,0,1;", 1);
            for (int week = -1; week <= 52; week++) {
                int want = week >= term[0] && week <= term[1] ? 0 : Due.BAD;
                Due.is("WEEK " + week + ", what 0", x.point(5, 3, 3, week, 0), want);
                Due.is("WEEK " + week + ", what 1", x.point(5, 3, 3, week, 1), want);
            }
        }
        Due.is("ten have it", Due.signed(TEN, 10, 0, 1, 2, 3, 4, 5, 6, 7, 8, 9).point(5, 3, 3, 9, 0), 10);
    }

    private static void points() {
        Due.by("18: POINTS of the TERM (what = 0), SOLD (1), TWICE (2), ALONE (3), LEFT (4). BAD");
        for (ShowRights x : objects()) {
            for (int what : beyond(4)) Due.is("points(" + what + ")", x.points(what), Due.BAD);
            Due.is("points(1)", x.points(1), 0);
            Due.is("points(4)", x.points(4), x.points(0));
        }
        Due.is("the shortest TERM", Due.laid(ONE, 1).points(0), 96);
        Due.is("the longest TERM", Due.laid(TEN, 10).points(0), 4992);
    }

    private static void window() {
        Due.by("19: WINDOWS: how many (k = -1); what is 0, 1 always. BAD (k below -1); NONE: not so many");
        for (ShowRights x : objects()) {
            for (int k = -1; k <= 1; k++) {
                for (int land : beyond(5)) Due.is("LAND " + land, x.window(land, 0, 0, k, 0), Due.BAD);
                for (int n : beyond(3)) {
                    Due.is("TONGUE " + n, x.window(0, n, 0, k, 0), Due.BAD);
                    Due.is("MEANS " + n, x.window(0, 0, n, k, 0), Due.BAD);
                }
                for (int what : beyond(1)) Due.is("k " + k + ", what " + what, x.window(0, 0, 0, k, what), Due.BAD);
            }
            for (int what = 0; what <= 1; what++) {
                Due.is("k -1", x.window(5, 3, 3, -1, what), 1);
                Due.is("k -2", x.window(5, 3, 3, -2, what), Due.BAD);
                Due.is("k lowest", x.window(5, 3, 3, Integer.MIN_VALUE, what), Due.BAD);
                Due.is("k 1", x.window(5, 3, 3, 1, what), Due.NONE);
                Due.is("k 64", x.window(5, 3, 3, 64, what), Due.NONE);
                Due.is("k highest", x.window(5, 3, 3, Integer.MAX_VALUE, what), Due.NONE);
            }
            Due.is("BAD goes ahead of NONE", x.window(5, 3, 3, 1, 2), Due.BAD);
        }
        ShowRights x = Due.signed(ONE, 1, 0);
        Due.is("none at all: k -1", x.window(0, 0, 0, -1, 0), 0);
        Due.is("none at all: k 0", x.window(0, 0, 0, 0, 0), Due.NONE);
        Due.is("none at all: k 0", x.window(0, 0, 0, 0, 1), Due.NONE);
    }

    private static void longest() {
        Due.by("20: LONGEST WINDOW: how many WEEKS (what = 0) .. its first WEEK (4). BAD; NONE: nothing is LEFT");
        int[] weeks = {47, 1, 52};
        int[] first = {2, 9, 0};
        ShowRights[] objects = objects();
        for (int n = 0; n < 3; n++) {
            for (int what : beyond(4)) Due.is("longest(" + what + ")", objects[n].longest(what), Due.BAD);
            Due.is("longest(0)", objects[n].longest(0), weeks[n]);
            Due.is("longest(4)", objects[n].longest(4), first[n]);
        }
        ShowRights x = Due.signed("t9,9;o63,15,15,9,9,0,1;", 1, 0);
        for (int what = 0; what <= 4; what++) Due.is("longest(" + what + ")", x.longest(what), Due.NONE);
        for (int what : beyond(4)) Due.is("BAD goes ahead of NONE", x.longest(what), Due.BAD);
    }

    private static void best() {
        Due.by("21: BEST SET: PRICES together (what = 0), OFFERS as bits (1). BAD");
        int[] price = {70, 1, 30};
        int[] set = {5, 1, 1023};
        ShowRights[] objects = objects();
        for (int n = 0; n < 3; n++) {
            for (int what : beyond(1)) Due.is("best(" + what + ")", objects[n].best(what), Due.BAD);
            Due.is("best(0)", objects[n].best(0), price[n]);
            Due.is("best(1)", objects[n].best(1), set[n]);
            Due.is("count(4), nothing is SIGNED by it", objects[n].count(4), 0);
        }
    }

    private static void take() {
        Due.by("22: BEST SET is SIGNED: how many OFFERS");
        int[] many = {2, 1, 10};
        ShowRights[] objects = objects();
        for (int n = 0; n < 3; n++) {
            ShowRights x = objects[n];
            Due.is("take()", x.take(), many[n]);
            Due.is("count(4)", x.count(4), many[n]);
            Due.is("count(5)", x.count(5), x.best(0));
            Due.is("take() again", x.take(), many[n]);
            Due.is("count(7)", x.count(7), 2);
        }
        // what is SIGNED and is none of BEST SET is SIGNED no more
        ShowRights x = Due.signed("o1,1,1,0,4,1,5;o1,1,1,3,9,1,6;", 2, 0);
        Due.is("take()", x.take(), 1);
        Due.is("offer(0, 7)", x.offer(0, 7), 0);
        Due.is("offer(1, 7)", x.offer(1, 7), 1);
        ShowRights none = Due.laid("t9,9;o1,1,1,0,0,0,1;", 1);
        Due.is("take(), nothing fits", none.take(), 0);
        Due.is("count(4)", none.count(4), 0);
    }

    private static void count() {
        Due.by("23: How many: 0 OFFERS .. 8 letters of THE TEXT. BAD");
        for (ShowRights x : objects()) {
            for (int what : beyond(8)) Due.is("count(" + what + ")", x.count(what), Due.BAD);
        }
        String alone = "o63,15,15,0,51,1,99;".repeat(9) + "t0,51;";
        int[] most = {9, 0, 0, 51, 0, 0, 36, 0, 186};
        ShowRights x = Due.laid(alone, 9);
        for (int what = 0; what <= 8; what++) Due.is("count(" + what + ")", x.count(what), most[what]);
        ShowRights ten = Due.signed(TEN.replace(",3;", ",9;"), 10, 0, 1, 2, 3, 4, 5, 6, 7, 8, 9);
        int[] full = {10, 4, 0, 51, 10, 90, 0, 6, 188};
        for (int what = 0; what <= 8; what++) Due.is("count(" + what + ")", ten.count(what), full[what]);
        Due.is("45 pairs", Due.laid("o1,1,1,0,0,1,1;".repeat(10), 10).count(6), 45);
        Due.is("one ALONE, 9 pairs", Due.laid("o1,1,1,0,0,0,1;".repeat(9) + "o1,1,1,0,0,1,1;", 10).count(6), 9);
        ShowRights one = Due.laid(ONE, 1);
        int[] fewest = {1, 0, 9, 9, 0, 0, 0, 0, 20};
        for (int what = 0; what <= 8; what++) Due.is("count(" + what + ")", one.count(what), fewest[what]);
    }
}
