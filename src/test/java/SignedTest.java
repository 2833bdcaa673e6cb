/** Promises 6 to 12: sign, why, clash, drop, move, soonest, undo. */
public final class SignedTest {
    public static void main(String[] args) {
        badNumbers();
        sign();
        whyTerm();
        whyClash();
        whyHold();
        whyHoldElsewhere();
        whyOrder();
        clash();
        drop();
        move();
        moveNeedNotFit();
        soonest();
        soonestFromNowOn();
        undoEach();
        undoSix();
        refusedIsNoChange();
        Due.end();
    }

    private static void badNumbers() {
        ShowRights x = Due.laid("o1,1,1,0,5,0,1;o2,1,1,0,5,0,1;", 2);
        for (int i : new int[] {-1, 2, 9, 10, 32, 1000, Integer.MAX_VALUE, Integer.MIN_VALUE}) {
            Due.is("6: sign(" + i + ")", x.sign(i), Due.BAD);
            Due.is("7: why(" + i + ")", x.why(i), Due.BAD);
            Due.is("8: clash(" + i + ")", x.clash(i), Due.BAD);
            Due.is("9: drop(" + i + ")", x.drop(i), Due.BAD);
            Due.is("10: move(" + i + ", 1)", x.move(i, 1), Due.BAD);
            Due.is("11: soonest(" + i + ")", x.soonest(i), Due.BAD);
        }
        for (int d : new int[] {-1, 52, Integer.MAX_VALUE, Integer.MIN_VALUE}) {
            Due.is("10: move(0, " + d + ")", x.move(0, d), Due.BAD);
        }
        x.sign(0);
        Due.is("10: BAD comes ahead of NO", x.move(0, 52), Due.BAD);
        Due.is("10: NO", x.move(0, 51), Due.NO);
        Due.is("12: one change alone", x.count(7), 1);
    }

    private static void sign() {
        ShowRights x = Due.laid("o1,1,1,0,5,0,7;o1,1,1,5,9,0,8;o1,1,1,9,12,1,9;", 3);
        Due.is("6: sign(1)", x.sign(1), 1);
        Due.is("6: offer(1, 7)", x.offer(1, 7), 1);
        Due.is("6: sign(1) again", x.sign(1), Due.NO);
        Due.is("6: sign(2), a CLASH", x.sign(2), Due.NO);
        Due.is("6: offer(2, 7)", x.offer(2, 7), 0);
        Due.is("6: sign(0), which MEETS", x.sign(0), 2);
        Due.is("6: count(5)", x.count(5), 15);
    }

    private static void whyTerm() {
        ShowRights x = Due.laid("t10,20;o1,1,1,10,20,0,1;o1,1,1,9,15,0,1;o1,1,1,15,21,0,1;o1,1,1,30,40,0,1;o1,1,1,0,51,0,1;", 5);
        Due.is("7: why(0), the TERM itself", x.why(0), 0);
        Due.is("7: why(1), a WEEK ahead", x.why(1), 2);
        Due.is("7: why(2), a WEEK behind", x.why(2), 2);
        Due.is("7: why(3), all WEEKS behind", x.why(3), 2);
        Due.is("7: why(4), the TERM and more", x.why(4), 2);
        Due.is("6: sign(1)", x.sign(1), Due.NO);
        Due.is("6: sign(0)", x.sign(0), 1);
        Due.is("7: why(0), SIGNED", x.why(0), 1);
    }

    private static void whyClash() {
        // 0 is ALONE; the others MEET it or miss it by one of LANDS, TONGUES, MEANS, WEEKS
        ShowRights x = Due.laid("o3,3,3,10,20,1,1;o2,2,2,20,20,0,1;o4,2,2,20,20,0,1;o2,4,2,20,20,0,1;o2,2,4,20,20,0,1;"
                + "o2,2,2,21,30,0,1;o6,6,6,0,10,0,1;o1,1,1,0,9,1,1;", 8);
        int[] free = {0, 0, 0, 0, 0, 0, 0, 0};
        int[] met = {1, 3, 0, 0, 0, 0, 3, 0};
        for (int i = 0; i < free.length; i++) Due.is("7: why(" + i + "), none SIGNED", x.why(i), free[i]);
        Due.is("6: sign(0)", x.sign(0), 1);
        for (int i = 0; i < met.length; i++) Due.is("7: why(" + i + "), 0 SIGNED", x.why(i), met[i]);
        // the one to be SIGNED may be the one that is ALONE
        ShowRights y = Due.laid("o1,1,1,0,5,0,1;o1,1,1,5,9,1,1;o1,1,1,5,9,0,1;", 3);
        Due.is("6: sign(0)", y.sign(0), 1);
        Due.is("7: why(1), ALONE itself", y.why(1), 3);
        Due.is("7: why(2), none ALONE", y.why(2), 0);
    }

    private static void whyHold() {
        // MEANS 1 has to begin 5 WEEKS or more behind MEANS 0
        ShowRights x = Due.laid("o1,1,1,10,12,0,1;o1,2,2,14,20,0,1;o1,2,2,15,20,0,1;o2,2,2,0,20,0,1;o1,1,2,3,9,0,1;h1,0,5;", 5);
        for (int i = 0; i < 5; i++) Due.is("7: why(" + i + "), none SIGNED", x.why(i), 0);
        Due.is("6: sign(0)", x.sign(0), 1);
        Due.is("7: why(1), 4 WEEKS behind", x.why(1), 4);
        Due.is("7: why(2), 5 WEEKS behind", x.why(2), 0);
        Due.is("7: why(3), another LAND", x.why(3), 0);
        Due.is("7: why(4), ahead", x.why(4), 4);
        Due.is("6: sign(2)", x.sign(2), 2);
        Due.is("7: why(1), 4 WEEKS behind, one later SIGNED", x.why(1), 4);
        // the one that begins early may be the one to be SIGNED
        ShowRights y = Due.laid("o1,1,2,14,20,0,1;o1,1,1,10,12,0,1;o1,1,1,9,12,0,1;o1,1,1,30,40,0,1;h1,0,5;", 4);
        Due.is("6: sign(0)", y.sign(0), 1);
        Due.is("7: why(1)", y.why(1), 4);
        Due.is("7: why(2)", y.why(2), 0);
        Due.is("7: why(3)", y.why(3), 4);
        Due.is("6: sign(2)", y.sign(2), 2);
        Due.is("7: why(3), BEGIN is earlier by another", y.why(3), 0);
        // one OFFER with both MEANS never keeps a HOLD
        ShowRights z = Due.laid("o1,1,3,14,20,0,1;h0,1,1;h3,2,1;", 1);
        Due.is("7: why(0)", z.why(0), 4);
        // the last HOLD counts as the first does
        ShowRights l = Due.laid("o32,8,12,0,0,0,1;h0,1,1;h0,1,1;h0,1,1;h3,2,1;", 1);
        Due.is("7: why(0), the fourth HOLD", l.why(0), 4);
    }

    private static void whyHoldElsewhere() {
        // given up, HOLDS are not looked at: LAND 0 has a HOLD that is not KEPT, and so speaks against all others
        ShowRights x = Due.laid("o1,1,1,0,3,0,1;o1,1,1,8,9,0,1;o1,1,2,10,12,0,1;o32,1,1,0,5,0,1;h1,0,5;", 4);
        Due.is("6: sign(0)", x.sign(0), 1);
        Due.is("6: sign(1)", x.sign(1), 2);
        Due.is("6: sign(2)", x.sign(2), 3);
        Due.is("7: why(3)", x.why(3), 0);
        Due.is("9: drop(0)", x.drop(0), 2);
        Due.is("16: broken(0)", x.broken(0), 1);
        Due.is("7: why(3), a HOLD not KEPT elsewhere", x.why(3), 4);
        Due.is("6: sign(3)", x.sign(3), Due.NO);
        Due.is("7: why(0), which mends it", x.why(0), 0);
        Due.is("6: sign(0)", x.sign(0), 3);
        Due.is("6: sign(3)", x.sign(3), 4);
    }

    private static void whyOrder() {
        // 1 is out of the TERM, CLASHES and has a HOLD against it; moved into the TERM the CLASH comes first
        ShowRights x = Due.laid("t2,20;o1,1,1,2,20,1,1;o1,1,3,0,5,0,1;h1,0,9;", 2);
        Due.is("6: sign(0)", x.sign(0), 1);
        Due.is("7: why(0)", x.why(0), 1);
        Due.is("7: why(1), TERM, CLASH, HOLD", x.why(1), 2);
        Due.is("10: move(1, 2)", x.move(1, 2), 0);
        Due.is("7: why(1), CLASH, HOLD", x.why(1), 3);
        Due.is("9: drop(0)", x.drop(0), 0);
        Due.is("7: why(1), HOLD", x.why(1), 4);
    }

    private static void clash() {
        ShowRights x = Due.laid("o1,1,1,0,4,1,1;o1,1,1,5,9,1,1;o1,1,1,4,5,0,1;o1,1,1,9,9,0,1;o2,1,1,0,51,1,1;", 5);
        Due.is("8: clash(2), none SIGNED", x.clash(2), Due.NONE);
        Due.is("6: sign(1)", x.sign(1), 1);
        Due.is("8: clash(2)", x.clash(2), 1);
        Due.is("8: clash(1), itself", x.clash(1), Due.NONE);
        Due.is("6: sign(0)", x.sign(0), 2);
        Due.is("8: clash(2), the lowest", x.clash(2), 0);
        Due.is("8: clash(3)", x.clash(3), 1);
        Due.is("8: clash(4)", x.clash(4), Due.NONE);
        Due.is("10: move(3, 1)", x.move(3, 1), 0);
        Due.is("8: clash(3), as it is MOVED", x.clash(3), Due.NONE);
        // the one that is SIGNED may be MOVED, and so miss or MEET what it did not as it was told
        ShowRights z = Due.laid("o1,1,1,0,4,1,1;o1,1,1,2,3,0,1;o1,1,1,13,20,0,1;", 3);
        Due.is("10: move(0, 9)", z.move(0, 9), 0);
        Due.is("6: sign(0)", z.sign(0), 1);
        Due.is("8: clash(1)", z.clash(1), Due.NONE);
        Due.is("8: clash(2)", z.clash(2), 0);
        // WEEKS that are not of the TERM count, too
        ShowRights y = Due.laid("t0,9;o1,1,1,5,9,1,1;o1,1,1,9,30,0,1;o1,1,1,10,30,0,1;", 3);
        Due.is("6: sign(0)", y.sign(0), 1);
        Due.is("8: clash(1)", y.clash(1), 0);
        Due.is("8: clash(2)", y.clash(2), Due.NONE);
    }

    private static void drop() {
        ShowRights x = Due.laid("o1,1,1,0,4,0,5;o1,1,1,5,9,0,6;o1,1,1,4,5,0,7;", 3);
        Due.is("9: drop(0), not SIGNED", x.drop(0), Due.NO);
        x.sign(0);
        x.sign(1);
        x.sign(2);
        Due.is("9: drop(1)", x.drop(1), 2);
        Due.is("9: drop(1) again", x.drop(1), Due.NO);
        Due.is("9: offer(1, 7)", x.offer(1, 7), 0);
        Due.is("9: offer(0, 7)", x.offer(0, 7), 1);
        Due.is("9: count(5)", x.count(5), 12);
        Due.is("9: drop(0)", x.drop(0), 1);
        Due.is("9: drop(2)", x.drop(2), 0);
    }

    private static void move() {
        ShowRights x = Due.laid("o1,1,1,10,41,0,5;o1,1,1,0,51,0,5;o1,1,1,0,0,0,5;", 3);
        Due.is("10: move(0, 0), as it is", x.move(0, 0), Due.NO);
        Due.is("10: move(0, 4)", x.move(0, 4), 0);
        Due.is("10: offer(0, 3)", x.offer(0, 3), 14);
        Due.is("10: offer(0, 4)", x.offer(0, 4), 45);
        Due.is("10: move(0, 4) again", x.move(0, 4), Due.NO);
        Due.is("10: move(0, 10), from what was told on", x.move(0, 10), 4);
        Due.is("10: offer(0, 4)", x.offer(0, 4), 51);
        Due.is("10: move(0, 11)", x.move(0, 11), Due.NO);
        Due.is("10: move(0, 1), back", x.move(0, 1), 10);
        Due.is("10: move(0, 0), back", x.move(0, 0), 1);
        Due.is("10: offer(0, 3)", x.offer(0, 3), 10);
        Due.is("10: move(1, 1), never", x.move(1, 1), Due.NO);
        Due.is("10: move(2, 51)", x.move(2, 51), 0);
        Due.is("10: offer(2, 3)", x.offer(2, 3), 51);
        Due.is("6: sign(0)", x.sign(0), 1);
        Due.is("10: move(0, 2), SIGNED", x.move(0, 2), Due.NO);
        Due.is("10: offer(0, 3)", x.offer(0, 3), 10);
    }

    private static void moveNeedNotFit() {
        ShowRights x = Due.laid("t5,9;o1,1,1,5,9,1,1;o1,1,1,0,4,1,1;", 2);
        Due.is("6: sign(0)", x.sign(0), 1);
        Due.is("10: move(1, 3), onto one SIGNED", x.move(1, 3), 0);
        Due.is("10: move(1, 47), out of the TERM", x.move(1, 47), 3);
        Due.is("7: why(1)", x.why(1), 2);
        Due.is("8: clash(1)", x.clash(1), Due.NONE);
    }

    private static void soonest() {
        ShowRights x = Due.laid("t5,30;o1,1,1,10,14,1,1;o1,1,1,0,3,0,1;o1,1,1,12,30,0,1;o1,1,2,0,0,0,1;h1,0,7;", 4);
        Due.is("11: soonest(0)", x.soonest(0), 0);
        Due.is("11: soonest(1), into the TERM", x.soonest(1), 5);
        Due.is("6: sign(0)", x.sign(0), 1);
        Due.is("11: soonest(0), SIGNED", x.soonest(0), Due.NO);
        Due.is("11: soonest(1), before it", x.soonest(1), 5);
        Due.is("11: soonest(2), out of the TERM then", x.soonest(2), Due.NONE);
        Due.is("11: soonest(3), behind the HOLD", x.soonest(3), 17);
        Due.is("11: nothing is MOVED", x.offer(3, 3), 0);
        Due.is("11: nothing is a change", x.count(7), 1);
        // to the very last WEEK, and none behind it
        ShowRights y = Due.laid("o1,1,1,0,50,1,1;o1,1,1,0,0,0,1;o1,1,1,0,1,0,1;", 3);
        Due.is("6: sign(0)", y.sign(0), 1);
        Due.is("11: soonest(1), the last WEEK", y.soonest(1), 51);
        Due.is("11: soonest(2)", y.soonest(2), Due.NONE);
    }

    private static void soonestFromNowOn() {
        ShowRights x = Due.laid("o1,1,1,10,14,1,1;o1,1,1,0,3,0,1;", 2);
        Due.is("6: sign(0)", x.sign(0), 1);
        Due.is("11: soonest(1)", x.soonest(1), 0);
        Due.is("10: move(1, 6)", x.move(1, 6), 0);
        Due.is("11: soonest(1), as it is", x.soonest(1), 6);
        Due.is("10: move(1, 7)", x.move(1, 7), 6);
        Due.is("11: soonest(1), behind", x.soonest(1), 15);
        Due.is("11: it stays where it was", x.offer(1, 3), 7);
        Due.is("10: move(1, 48)", x.move(1, 48), 7);
        Due.is("11: soonest(1), the last place", x.soonest(1), 48);
    }

    private static void undoEach() {
        ShowRights x = Due.laid("o1,1,1,0,4,1,5;o1,1,1,3,9,1,6;o2,1,1,3,9,1,1;", 3);
        Due.is("12: undo() of none", x.undo(), Due.NO);
        Due.is("10: move(0, 2)", x.move(0, 2), 0);
        Due.is("10: move(0, 9)", x.move(0, 9), 2);
        Due.is("6: sign(0)", x.sign(0), 1);
        Due.is("9: drop(0)", x.drop(0), 0);
        Due.is("6: sign(2)", x.sign(2), 1);
        Due.is("22: take()", x.take(), 2);
        Due.is("12: count(7)", x.count(7), 6);
        Due.is("12: undo() of take()", x.undo(), 5);
        Due.is("12: count(5)", x.count(5), 1);
        Due.is("12: offer(2, 7)", x.offer(2, 7), 1);
        Due.is("12: undo() of sign(2)", x.undo(), 4);
        Due.is("12: count(4)", x.count(4), 0);
        Due.is("12: undo() of drop(0)", x.undo(), 3);
        Due.is("12: offer(0, 7)", x.offer(0, 7), 1);
        Due.is("12: undo() of sign(0)", x.undo(), 2);
        Due.is("12: offer(0, 7)", x.offer(0, 7), 0);
        Due.is("12: offer(0, 3)", x.offer(0, 3), 9);
        Due.is("12: undo() of move(0, 9)", x.undo(), 1);
        Due.is("12: offer(0, 3)", x.offer(0, 3), 2);
        Due.is("12: undo() of move(0, 2)", x.undo(), 0);
        Due.is("12: offer(0, 3)", x.offer(0, 3), 0);
        Due.is("12: undo() of no more", x.undo(), Due.NO);
        Due.is("12: count(7)", x.count(7), 0);
    }

    private static void undoSix() {
        ShowRights x = Due.laid("o1,1,1,0,4,1,5;o1,1,1,3,9,1,6;", 2);
        for (int d = 1; d <= 9; d++) {
            Due.is("10: move(0, " + d + ")", x.move(0, d), d - 1);
            Due.is("12: count(7)", x.count(7), Math.min(d, 6));
        }
        for (int left = 5; left >= 0; left--) {
            Due.is("12: undo()", x.undo(), left);
            Due.is("12: offer(0, 3)", x.offer(0, 3), left + 3);
        }
        Due.is("12: undo() of a seventh", x.undo(), Due.NO);
        Due.is("12: offer(0, 3)", x.offer(0, 3), 3);
        // undone is no change of its own, and a change behind it counts again
        Due.is("10: move(1, 1)", x.move(1, 1), 0);
        Due.is("12: undo()", x.undo(), 0);
        Due.is("12: undo()", x.undo(), Due.NO);
        // what changes nothing is a change, too
        Due.is("22: take()", x.take(), 1);
        Due.is("22: take() again", x.take(), 1);
        Due.is("12: count(7)", x.count(7), 2);
        Due.is("12: undo() of nothing", x.undo(), 1);
        Due.is("12: count(5)", x.count(5), 6);
        Due.is("12: undo() of take()", x.undo(), 0);
        Due.is("12: count(5)", x.count(5), 0);
    }

    private static void refusedIsNoChange() {
        ShowRights x = Due.laid("o1,1,1,0,4,1,5;o1,1,1,3,9,1,6;", 2);
        x.sign(0);
        x.sign(0);
        x.sign(1);
        x.sign(5);
        x.drop(1);
        x.drop(-1);
        x.move(0, 3);
        x.move(1, 0);
        x.move(1, 43);
        x.move(1, 60);
        x.soonest(1);
        x.why(1);
        x.best(0);
        x.wipe();
        Due.is("12: one change alone", x.count(7), 1);
        Due.is("12: undo()", x.undo(), 0);
        Due.is("12: count(4)", x.count(4), 0);
    }
}
