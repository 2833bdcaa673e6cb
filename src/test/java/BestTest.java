/** Promises 21 to 23: best, take, count. */
public final class BestTest {
    public static void main(String[] args) {
        best();
        bestTies();
        bestHolds();
        bestAsMoved();
        bestOfNone();
        bestOfTen();
        take();
        count();
        Due.end();
    }

    private static void bestIs(ShowRights x, String when, int price, int set) {
        Due.is("21: best(0) " + when, x.best(0), price);
        Due.is("21: best(1) " + when, x.best(1), set);
    }

    private static void best() {
        bestIs(new ShowRights(), "at first", 70, 5);
        bestIs(Due.laid("o1,1,1,0,0,0,1;", 1), "the least PRICE", 1, 1);
        bestIs(Due.laid("o1,1,1,0,9,1,10;o1,1,1,5,20,0,6;o1,1,1,15,30,1,10;o1,1,1,0,30,0,16;", 4), "two against one", 22, 10);
        bestIs(Due.laid("o1,1,1,0,9,1,10;o1,1,1,5,20,0,6;o1,1,1,15,30,1,10;o1,1,1,0,30,0,11;", 4), "two against two", 20, 5);
        bestIs(Due.laid("t5,9;o1,1,1,4,9,0,50;o1,1,1,5,9,0,3;o1,1,1,9,10,0,60;", 3), "within the TERM", 3, 2);
        ShowRights x = Due.laid("o1,1,1,0,9,1,10;o1,1,1,5,20,1,11;", 2);
        x.sign(0);
        bestIs(x, "SIGNED or not", 11, 2);
        Due.is("21: nothing changes", x.count(5), 10);
        for (int what : new int[] {-1, 2, 3, Integer.MAX_VALUE, Integer.MIN_VALUE}) {
            Due.is("21: best(" + what + ")", x.best(what), Due.BAD);
        }
    }

    private static void bestTies() {
        bestIs(Due.laid("o1,1,1,0,0,1,4;o2,1,1,0,0,1,4;o3,1,1,0,0,1,8;", 3), "the fewest", 8, 4);
        bestIs(Due.laid("o3,1,1,0,0,1,8;o1,1,1,0,0,1,4;o2,1,1,0,0,1,4;", 3), "the fewest", 8, 1);
        bestIs(Due.laid("o1,1,1,0,0,1,4;o1,1,1,0,0,1,4;o1,1,1,0,0,1,4;", 3), "the least as bits", 4, 1);
        bestIs(Due.laid("t1,9;o1,1,1,0,0,1,4;o1,1,1,1,1,1,4;o1,1,1,1,1,1,4;", 3), "the least as bits", 4, 2);
        // 0 and 3, or 1 and 2: as bits 9 and 6
        bestIs(Due.laid("o3,1,1,0,0,1,5;o1,1,1,0,1,1,4;o2,1,1,0,1,1,6;o3,1,1,1,1,1,5;", 4), "6 below 9", 10, 6);
    }

    private static void bestHolds() {
        bestIs(Due.laid("o1,1,1,0,5,0,9;o1,1,2,4,9,0,8;h1,0,5;", 2), "a HOLD against two", 9, 1);
        bestIs(Due.laid("o1,1,1,0,5,0,9;o1,1,2,5,9,0,8;h1,0,5;", 2), "a HOLD that is KEPT", 17, 3);
        // a third one, that begins early, mends what two would break
        bestIs(Due.laid("o1,1,1,20,25,0,9;o1,1,2,22,30,0,8;o1,1,1,1,1,0,1;h1,0,5;", 3), "mended", 18, 7);
        bestIs(Due.laid("o1,1,1,20,25,0,9;o32,1,2,22,30,0,8;h1,0,5;", 2), "other LANDS", 17, 3);
        bestIs(Due.laid("o32,1,1,20,25,0,9;o48,1,2,22,30,0,8;h2,3,1;h1,0,5;", 2), "the second HOLD, LAND 5", 9, 1);
        // what is SIGNED and breaks a HOLD now does not count: just they would be SIGNED
        ShowRights x = Due.laid("o1,1,1,0,0,0,1;o1,1,1,9,9,0,9;o1,1,2,10,10,0,8;o2,1,1,0,0,0,5;h1,0,5;", 4);
        x.sign(0);
        x.sign(1);
        x.sign(2);
        x.drop(0);
        Due.is("16: broken(0)", x.broken(0), 1);
        bestIs(x, "a HOLD not KEPT now", 23, 15);
    }

    private static void bestAsMoved() {
        ShowRights x = Due.laid("t0,20;o1,1,1,0,9,1,10;o1,1,1,5,9,1,11;", 2);
        bestIs(x, "as told", 11, 2);
        x.move(1, 5);
        bestIs(x, "as MOVED", 21, 3);
        x.move(1, 12);
        bestIs(x, "MOVED out of the TERM", 10, 1);
        x.undo();
        bestIs(x, "UNDONE", 21, 3);
        x.undo();
        bestIs(x, "UNDONE", 11, 2);
    }

    private static void bestOfNone() {
        ShowRights x = Due.laid("t5,9;o1,1,1,0,9,1,10;o1,1,3,5,9,1,11;h0,1,1;", 2);
        bestIs(x, "of none", 0, 0);
        Due.is("22: take() of none", x.take(), 0);
        Due.is("22: count(7)", x.count(7), 1);
    }

    private static void bestOfTen() {
        String ten = "o1,1,1,0,0,0,99;".repeat(10);
        bestIs(Due.laid(ten, 10), "of ten", 990, 1023);
        String alone = "o1,1,1,0,0,1,99;".repeat(9) + "o1,1,1,1,1,1,99;";
        bestIs(Due.laid(alone, 10), "of ten ALONE", 198, 513);
    }

    private static void take() {
        ShowRights x = Due.laid("o1,1,1,0,9,1,10;o1,1,1,5,20,0,16;o1,1,1,15,30,1,10;o2,1,1,0,0,0,1;", 4);
        x.sign(1);
        Due.is("22: take()", x.take(), 3);
        int[] signed = {1, 0, 1, 1};
        for (int i = 0; i < 4; i++) Due.is("22: offer(" + i + ", 7)", x.offer(i, 7), signed[i]);
        Due.is("22: count(5)", x.count(5), 21);
        Due.is("22: count(7)", x.count(7), 2);
        Due.is("12: undo()", x.undo(), 1);
        Due.is("12: count(5)", x.count(5), 16);
        // take() moves nothing, and what it changed is undone with the moves as they were
        Due.is("10: move(0, 1)", x.move(0, 1), 0);
        Due.is("22: take()", x.take(), 3);
        Due.is("22: offer(0, 3)", x.offer(0, 3), 1);
        Due.is("12: undo()", x.undo(), 2);
        Due.is("12: offer(0, 3)", x.offer(0, 3), 1);
        Due.is("12: offer(1, 7)", x.offer(1, 7), 1);
    }

    private static void count() {
        ShowRights x = Due.laid("t3,44;o1,1,1,3,9,1,10;o1,1,1,5,20,0,16;o1,1,1,15,30,1,7;h0,1,2;h1,2,3;h2,3,4;", 3);
        int[] first = {3, 3, 3, 44, 0, 0, 2, 0, 77};
        for (int what = 0; what <= 8; what++) Due.is("23: count(" + what + ")", x.count(what), first[what]);
        x.sign(2);
        x.sign(0);
        int[] two = {3, 3, 3, 44, 2, 17, 2, 2, 77};
        for (int what = 0; what <= 8; what++) Due.is("23: count(" + what + ")", x.count(what), two[what]);
        x.move(1, 5);
        Due.is("23: count(6), as MOVED", x.count(6), 1);
        x.write('t');
        Due.is("23: count(8)", x.count(8), 78);
        Due.is("23: count(0) stays", x.count(0), 3);
        for (int what : new int[] {-1, 9, 10, Integer.MAX_VALUE, Integer.MIN_VALUE}) {
            Due.is("23: count(" + what + ")", x.count(what), Due.BAD);
        }
        // a CLASH counts out of the TERM, too; two that are not ALONE do not CLASH
        Due.is("23: count(6)", Due.laid("t0,1;o1,1,1,30,40,1,1;o1,1,1,40,50,0,1;o1,1,1,40,50,0,1;", 3).count(6), 2);
        Due.is("23: count(6) of ten", Due.laid("o1,1,1,0,0,1,1;".repeat(10), 10).count(6), 45);
    }
}
