/** Promises 13 to 20: offer, common, begin, broken, point, points, window, longest. */
public final class LookedAtTest {
    public static void main(String[] args) {
        offer();
        common();
        begin();
        broken();
        point();
        pointBad();
        points();
        window();
        windowBad();
        windowEdges();
        longest();
        longestFirst();
        longestNone();
        asManyAsCanBe();
        Due.end();
    }

    private static void offer() {
        ShowRights x = Due.laid("o63,15,15,0,51,0,99;o5,6,9,3,12,1,7;", 2);
        int[] second = {5, 6, 9, 3, 12, 1, 7, 0, 80};
        for (int what = 0; what <= 8; what++) Due.is("13: offer(1, " + what + ")", x.offer(1, what), second[what]);
        Due.is("13: offer(0, 8)", x.offer(0, 8), 4992);
        for (int what : new int[] {-1, 9, 100, Integer.MAX_VALUE, Integer.MIN_VALUE}) {
            Due.is("13: offer(0, " + what + ")", x.offer(0, what), Due.BAD);
        }
        for (int i : new int[] {-1, 2, 10, Integer.MAX_VALUE, Integer.MIN_VALUE}) {
            for (int what = 0; what <= 8; what++) {
                Due.is("13: offer(" + i + ", " + what + ")", x.offer(i, what), Due.BAD);
            }
        }
        x.move(1, 39);
        x.sign(1);
        int[] moved = {5, 6, 9, 42, 51, 1, 7, 1, 80};
        for (int what = 0; what <= 8; what++) Due.is("13: offer(1, " + what + "), MOVED", x.offer(1, what), moved[what]);
    }

    private static void common() {
        ShowRights x = Due.laid("t0,5;o7,3,15,10,20,0,1;o6,6,9,15,30,0,1;o1,4,1,0,51,1,1;o8,3,15,10,20,0,1;o7,3,15,21,22,0,1;", 5);
        Due.is("14: common(0, 1)", x.common(0, 1), 2 * 1 * 2 * 6);
        Due.is("14: common(1, 0)", x.common(1, 0), 2 * 1 * 2 * 6);
        Due.is("14: common(0, 2), no TONGUE", x.common(0, 2), 0);
        Due.is("14: common(0, 3), no LAND", x.common(0, 3), 0);
        Due.is("14: common(0, 4), no WEEK", x.common(0, 4), 0);
        Due.is("14: common(2, 1)", x.common(2, 1), 0);
        x.move(1, 6);
        Due.is("14: common(0, 1), MOVED", x.common(0, 1), 0);
        x.move(1, 5);
        Due.is("14: common(0, 1), MOVED", x.common(0, 1), 4);
        for (int i = -1; i <= 5; i++) Due.is("14: common of one twice", x.common(i, i), Due.BAD);
        for (int i : Due.WILD) {
            Due.is("14: common(" + i + ", 0)", x.common(i, 0), Due.BAD);
            Due.is("14: common(0, " + i + ")", x.common(0, i), Due.BAD);
        }
        Due.is("14: common(0, 5)", x.common(0, 5), Due.BAD);
        Due.is("14: common(5, 0)", x.common(5, 0), Due.BAD);
    }

    private static void begin() {
        ShowRights x = Due.laid("o33,1,9,10,20,0,1;o1,2,1,5,8,0,1;o1,4,1,0,1,0,1;", 3);
        Due.is("15: begin(0, 0), none SIGNED", x.begin(0, 0), Due.NONE);
        x.sign(0);
        Due.is("15: begin(0, 0)", x.begin(0, 0), 10);
        Due.is("15: begin(0, 3)", x.begin(0, 3), 10);
        Due.is("15: begin(5, 3)", x.begin(5, 3), 10);
        Due.is("15: begin(0, 1)", x.begin(0, 1), Due.NONE);
        Due.is("15: begin(1, 0)", x.begin(1, 0), Due.NONE);
        x.sign(1);
        Due.is("15: begin(0, 0), the least", x.begin(0, 0), 5);
        Due.is("15: begin(5, 0)", x.begin(5, 0), 10);
        x.sign(2);
        Due.is("15: begin(0, 0), WEEK 0", x.begin(0, 0), 0);
        x.drop(2);
        x.drop(1);
        x.move(1, 4);
        x.sign(1);
        Due.is("15: begin(0, 0), MOVED", x.begin(0, 0), 9);
        x.drop(1);
        x.move(1, 9);
        x.sign(1);
        Due.is("15: begin(0, 0), MOVED behind the other", x.begin(0, 0), 10);
        Due.is("15: begin(6, 0)", x.begin(6, 0), Due.BAD);
        Due.is("15: begin(0, 4)", x.begin(0, 4), Due.BAD);
        for (int i : Due.WILD) {
            Due.is("15: begin(" + i + ", 0)", x.begin(i, 0), Due.BAD);
            Due.is("15: begin(0, " + i + ")", x.begin(0, i), Due.BAD);
        }
    }

    private static void broken() {
        ShowRights x = Due.laid("o63,1,1,0,2,0,1;o49,2,1,8,9,0,1;o35,1,2,10,12,0,1;h1,0,3;h1,0,2;h2,3,1;", 3);
        for (int h = 0; h < 3; h++) Due.is("16: broken(" + h + "), none SIGNED", x.broken(h), 0);
        x.sign(0);
        x.sign(1);
        x.sign(2);
        for (int h = 0; h < 3; h++) Due.is("16: broken(" + h + "), all KEPT", x.broken(h), 0);
        x.drop(0);
        Due.is("16: broken(0), LANDS 0 and 5", x.broken(0), 33);
        Due.is("16: broken(1), just as many WEEKS", x.broken(1), 0);
        Due.is("16: broken(2)", x.broken(2), 0);
        x.drop(1);
        Due.is("16: broken(0), no BEGIN of B", x.broken(0), 0);
        Due.is("16: broken(3)", x.broken(3), Due.BAD);
        for (int h : Due.WILD) Due.is("16: broken(" + h + ")", x.broken(h), Due.BAD);
        ShowRights none = Due.laid("o1,1,1,0,0,0,1;", 1);
        Due.is("16: broken(0) without a HOLD", none.broken(0), Due.BAD);
    }

    private static void point() {
        ShowRights x = Due.laid("t2,48;o32,8,8,2,48,0,1;o32,8,8,10,20,0,1;o48,12,12,20,30,0,1;o1,1,1,2,10,1,1;", 4);
        Due.is("17: none SIGNED", x.point(5, 3, 3, 15, 0), 0);
        for (int i = 0; i < 4; i++) x.sign(i);
        int[][] due = {{2, 1}, {9, 1}, {10, 2}, {19, 2}, {20, 3}, {21, 2}, {30, 2}, {31, 1}, {48, 1}};
        for (int[] row : due) {
            Due.is("17: point(5, 3, 3, " + row[0] + ", 0)", x.point(5, 3, 3, row[0], 0), row[1]);
            Due.is("17: point(5, 3, 3, " + row[0] + ", 1)", x.point(5, 3, 3, row[0], 1), 0);
        }
        Due.is("17: another LAND", x.point(4, 3, 3, 20, 0), 1);
        Due.is("17: another TONGUE", x.point(5, 2, 3, 20, 0), 1);
        Due.is("17: another MEANS", x.point(5, 3, 2, 20, 0), 1);
        Due.is("17: none of these", x.point(3, 3, 3, 20, 0), 0);
        Due.is("17: ALONE", x.point(0, 0, 0, 10, 1), 1);
        Due.is("17: ALONE, how many", x.point(0, 0, 0, 10, 0), 1);
        Due.is("17: ALONE no more", x.point(0, 0, 0, 11, 1), 0);
        Due.is("17: another LAND, not ALONE", x.point(1, 0, 0, 10, 1), 0);
    }

    private static void pointBad() {
        ShowRights x = Due.laid("t2,48;o63,15,15,2,48,0,1;", 1);
        x.sign(0);
        Due.is("17: WEEK 1", x.point(0, 0, 0, 1, 0), Due.BAD);
        Due.is("17: WEEK 2", x.point(0, 0, 0, 2, 0), 1);
        Due.is("17: WEEK 48", x.point(0, 0, 0, 48, 0), 1);
        Due.is("17: WEEK 49", x.point(0, 0, 0, 49, 0), Due.BAD);
        Due.is("17: LAND 6", x.point(6, 0, 0, 5, 0), Due.BAD);
        Due.is("17: TONGUE 4", x.point(0, 4, 0, 5, 0), Due.BAD);
        Due.is("17: MEANS 4", x.point(0, 0, 4, 5, 0), Due.BAD);
        Due.is("17: what 2", x.point(0, 0, 0, 5, 2), Due.BAD);
        for (int wild : Due.WILD) {
            Due.is("17: LAND " + wild, x.point(wild, 0, 0, 5, 0), Due.BAD);
            Due.is("17: TONGUE " + wild, x.point(0, wild, 0, 5, 0), Due.BAD);
            Due.is("17: MEANS " + wild, x.point(0, 0, wild, 5, 0), Due.BAD);
            Due.is("17: WEEK " + wild, x.point(0, 0, 0, wild, 0), Due.BAD);
            Due.is("17: what " + wild, x.point(0, 0, 0, 5, wild), Due.BAD);
        }
    }

    private static void pointsAre(ShowRights x, String when, int... due) {
        for (int what = 0; what < due.length; what++) {
            Due.is("18: points(" + what + ") " + when, x.points(what), due[what]);
        }
    }

    private static void points() {
        ShowRights x = Due.laid("t10,19;o3,1,1,10,14,0,1;o2,1,3,14,19,0,1;o2,1,1,14,14,0,1;o4,15,15,12,13,1,1;", 4);
        pointsAre(x, "none SIGNED", 960, 0, 0, 0, 960);
        x.sign(0);
        pointsAre(x, "0 SIGNED", 960, 10, 0, 0, 950);
        x.sign(1);
        pointsAre(x, "0, 1 SIGNED", 960, 21, 1, 0, 939);
        x.sign(2);
        pointsAre(x, "0, 1, 2 SIGNED", 960, 21, 1, 0, 939);
        x.sign(3);
        pointsAre(x, "all SIGNED", 960, 53, 1, 32, 907);
        for (int what : new int[] {-1, 5, 6, Integer.MAX_VALUE, Integer.MIN_VALUE}) {
            Due.is("18: points(" + what + ")", x.points(what), Due.BAD);
        }
        ShowRights all = Due.laid("o63,15,15,0,51,1,1;", 1);
        all.sign(0);
        pointsAre(all, "all sold", 4992, 4992, 0, 4992, 0);
        ShowRights beside = Due.laid("o63,15,15,0,51,0,1;o63,15,15,0,51,0,1;", 2);
        beside.sign(0);
        pointsAre(beside, "all sold beside others", 4992, 4992, 0, 0, 0);
        beside.sign(1);
        pointsAre(beside, "all sold twice", 4992, 4992, 4992, 0, 0);
        ShowRights one = Due.laid("t51,51;o63,15,15,51,51,0,1;o32,8,8,51,51,0,1;", 2);
        pointsAre(one, "one WEEK", 96, 0, 0, 0, 96);
        one.sign(0);
        one.sign(1);
        pointsAre(one, "one WEEK sold", 96, 96, 1, 0, 0);
    }

    private static void windowIs(ShowRights x, int[] cell, int k, int first, int last) {
        Due.is("19: first of " + k, x.window(cell[0], cell[1], cell[2], k, 0), first);
        Due.is("19: last of " + k, x.window(cell[0], cell[1], cell[2], k, 1), last);
    }

    private static void window() {
        ShowRights x = Due.laid("t5,45;o2,4,8,10,12,0,1;o2,4,8,13,15,0,1;o2,4,8,17,20,1,1;o3,6,12,40,44,0,1;", 4);
        int[] cell = {1, 2, 3};
        windowIs(x, cell, -1, 1, 1);
        windowIs(x, cell, 0, 5, 45);
        windowIs(x, cell, 1, Due.NONE, Due.NONE);
        for (int i = 0; i < 4; i++) x.sign(i);
        windowIs(x, cell, -1, 4, 4);
        windowIs(x, cell, 0, 5, 9);
        windowIs(x, cell, 1, 16, 16);
        windowIs(x, cell, 2, 21, 39);
        windowIs(x, cell, 3, 45, 45);
        windowIs(x, cell, 4, Due.NONE, Due.NONE);
        windowIs(x, cell, Integer.MAX_VALUE, Due.NONE, Due.NONE);
        int[] other = {0, 1, 2};
        windowIs(x, other, -1, 2, 2);
        windowIs(x, other, 1, 45, 45);
        int[] free = {5, 3, 0};
        windowIs(x, free, -1, 1, 1);
        windowIs(x, free, 0, 5, 45);
    }

    private static void windowBad() {
        ShowRights x = Due.laid("t5,45;o63,15,15,10,12,0,1;", 1);
        Due.is("19: k -2", x.window(0, 0, 0, -2, 0), Due.BAD);
        Due.is("19: k lowest", x.window(0, 0, 0, Integer.MIN_VALUE, 0), Due.BAD);
        Due.is("19: what 2", x.window(0, 0, 0, 0, 2), Due.BAD);
        Due.is("19: what 2 with k -1", x.window(0, 0, 0, -1, 2), Due.BAD);
        Due.is("19: what -1 with k -1", x.window(0, 0, 0, -1, -1), Due.BAD);
        Due.is("19: BAD ahead of NONE", x.window(0, 0, 0, 9, 2), Due.BAD);
        Due.is("19: LAND 6", x.window(6, 0, 0, -1, 0), Due.BAD);
        Due.is("19: TONGUE 4", x.window(0, 4, 0, -1, 0), Due.BAD);
        Due.is("19: MEANS 4", x.window(0, 0, 4, -1, 0), Due.BAD);
        for (int wild : Due.WILD) {
            Due.is("19: LAND " + wild, x.window(wild, 0, 0, -1, 0), Due.BAD);
            Due.is("19: TONGUE " + wild, x.window(0, wild, 0, -1, 0), Due.BAD);
            Due.is("19: MEANS " + wild, x.window(0, 0, wild, -1, 0), Due.BAD);
            Due.is("19: what " + wild, x.window(0, 0, 0, -1, wild), Due.BAD);
        }
    }

    private static void windowEdges() {
        ShowRights x = Due.laid("o1,1,1,1,50,0,1;o2,1,1,0,51,0,1;o4,1,1,0,0,0,1;o4,1,1,51,51,0,1;", 4);
        int[] first = {0, 0, 0};
        windowIs(x, first, 0, 0, 51);
        for (int i = 0; i < 4; i++) x.sign(i);
        windowIs(x, first, -1, 2, 2);
        windowIs(x, first, 0, 0, 0);
        windowIs(x, first, 1, 51, 51);
        int[] second = {1, 0, 0};
        windowIs(x, second, -1, 0, 0);
        windowIs(x, second, 0, Due.NONE, Due.NONE);
        int[] third = {2, 0, 0};
        windowIs(x, third, 0, 1, 50);
    }

    private static void longestIs(ShowRights x, String when, int... due) {
        for (int what = 0; what < due.length; what++) {
            Due.is("20: longest(" + what + ") " + when, x.longest(what), due[what]);
        }
    }

    private static void longest() {
        ShowRights x = Due.laid("t0,9;o31,15,15,3,9,0,1;o32,7,15,4,9,0,1;o32,8,11,0,0,0,1;o32,8,15,6,6,0,1;", 4);
        longestIs(x, "none SIGNED", 10, 0, 0, 0, 0);
        x.sign(0);
        longestIs(x, "0 SIGNED", 10, 5, 0, 0, 0);
        x.sign(1);
        longestIs(x, "0, 1 SIGNED", 10, 5, 3, 0, 0);
        x.sign(2);
        longestIs(x, "0, 1, 2 SIGNED", 10, 5, 3, 2, 0);
        x.sign(3);
        longestIs(x, "all SIGNED", 6, 5, 3, 2, 0);
        for (int what : new int[] {-1, 5, 6, Integer.MAX_VALUE, Integer.MIN_VALUE}) {
            Due.is("20: longest(" + what + ")", x.longest(what), Due.BAD);
        }
    }

    private static void longestFirst() {
        // each LAND has the same two longest WINDOWS; of several the first one counts, by LAND first
        ShowRights x = Due.laid("t0,20;o63,15,15,0,1,0,1;o63,15,15,7,8,0,1;o63,15,15,14,20,0,1;o1,1,1,2,2,0,1;o1,15,15,2,3,0,1;"
                + "o1,15,15,9,9,0,1;o2,3,15,9,9,0,1;o2,3,15,6,6,0,1;", 8);
        x.sign(0);
        x.sign(1);
        x.sign(2);
        longestIs(x, "of many alike", 5, 0, 0, 0, 2);
        x.sign(3);
        longestIs(x, "of one cell the later", 5, 0, 0, 0, 9);
        x.sign(4);
        longestIs(x, "another later one", 5, 0, 0, 0, 9);
        x.sign(5);
        longestIs(x, "another LAND", 5, 1, 0, 0, 2);
        x.sign(6);
        longestIs(x, "the earlier is left", 5, 1, 0, 0, 2);
        x.sign(7);
        longestIs(x, "another TONGUE", 5, 1, 2, 0, 2);
    }

    private static void longestNone() {
        ShowRights x = Due.laid("t7,9;o63,15,15,7,9,0,1;o63,15,15,7,8,0,1;", 2);
        x.sign(0);
        for (int what = 0; what <= 4; what++) Due.is("20: longest(" + what + ")", x.longest(what), Due.NONE);
        Due.is("20: BAD ahead of NONE", x.longest(5), Due.BAD);
        Due.is("20: BAD ahead of NONE", x.longest(-1), Due.BAD);
        x.drop(0);
        x.sign(1);
        longestIs(x, "one WEEK", 1, 0, 0, 0, 9);
        ShowRights y = Due.laid("o63,15,15,0,50,0,1;", 1);
        y.sign(0);
        longestIs(y, "the last WEEK", 1, 0, 0, 0, 51);
    }

    /** Ten OFFERS and four HOLDS: nothing may be looked for behind the last of them. */
    private static void asManyAsCanBe() {
        ShowRights x = Due.laid("o32,8,8,9,9,0,3;".repeat(9) + "o32,8,8,9,9,0,4;" + "h3,2,1;".repeat(3) + "h3,2,2;", 10);
        for (int i = 0; i < 10; i++) {
            Due.is("7: why(" + i + ")", x.why(i), 0);
            Due.is("6: sign(" + i + ")", x.sign(i), i + 1);
        }
        Due.is("8: clash(9)", x.clash(9), Due.NONE);
        Due.is("14: common(8, 9)", x.common(8, 9), 1);
        Due.is("15: begin(5, 3)", x.begin(5, 3), 9);
        Due.is("16: broken(3)", x.broken(3), 0);
        Due.is("16: broken(4)", x.broken(4), Due.BAD);
        Due.is("17: point(5, 3, 3, 9, 0)", x.point(5, 3, 3, 9, 0), 10);
        Due.is("17: point(5, 3, 3, 9, 1)", x.point(5, 3, 3, 9, 1), 0);
        pointsAre(x, "ten SIGNED", 4992, 1, 1, 0, 4991);
        windowIs(x, new int[] {5, 3, 3}, 1, 10, 51);
        longestIs(x, "ten SIGNED", 52, 0, 0, 0, 0);
        Due.is("23: count(5)", x.count(5), 31);
        Due.is("23: count(6)", x.count(6), 0);
        Due.is("21: best(1)", x.best(1), 1023);
        Due.is("9: drop(9)", x.drop(9), 9);
        Due.is("10: move(9, 42)", x.move(9, 42), 0);
        Due.is("11: soonest(9)", x.soonest(9), 42);
        Due.is("13: offer(10, 0)", x.offer(10, 0), Due.BAD);
    }
}
