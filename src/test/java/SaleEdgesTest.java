/** The boundary cases of the document's second and third part, sentence by sentence: SIGNED, MOVED, SOLD, BEST SET, UNDONE. */
public final class SaleEdgesTest {
    public static void main(String[] args) {
        meet();
        clashNeedsOneAlone();
        beginIsTheLeast();
        beginOfNone();
        keptWithoutOne();
        keptByWeeks();
        keptLandByLand();
        againstSigned();
        againstTerm();
        againstClash();
        againstHold();
        againstTheFirst();
        givenUp();
        movedAsTold();
        movedToTheLastWeek();
        movedUnsigned();
        soonestFromNowOn();
        soonestIsTheLeast();
        sold();
        twice();
        alone();
        left();
        windows();
        windowsOfTheTerm();
        longest();
        longestOfSeveral();
        bestWithin();
        bestIsMost();
        bestOfSeveral();
        bestIsJustThey();
        changes();
        lastSix();
        changeOfNothing();
        noneBehindLaid();
        Due.end();
    }

    /** Two OFFERS, the first one ALONE: what they have in common, and whether they CLASH. */
    private static void pair(String term, String one, String other, int common) {
        ShowRights x = Due.laid(term + one + other, 2);
        String of = term + one + other;
        Due.is("common(0, 1) of " + of, x.common(0, 1), common);
        Due.is("common(1, 0) of " + of, x.common(1, 0), common);
        Due.is("count(6) of " + of, x.count(6), common > 0 ? 1 : 0);
    }

    private static void meet() {
        Due.by("Two OFFERS MEET, if they have a POINT in common (WEEKS of the TERM or not)");
        String one = "o6,6,6,10,20,1,1;";
        String[] terms = {"", "t0,0;", "t51,51;", "t10,20;", "t15,15;"};
        for (String term : terms) {
            pair(term, one, "o2,2,2,20,51,0,1;", 1);
            pair(term, one, "o4,4,4,0,10,0,1;", 1);
            pair(term, one, "o6,6,6,10,20,0,1;", 88);
            pair(term, one, "o63,15,15,0,51,0,1;", 88);
            pair(term, one, "o63,15,15,15,15,0,1;", 8);
            pair(term, one, "o57,15,15,0,51,0,1;", 0);
            pair(term, one, "o63,9,15,0,51,0,1;", 0);
            pair(term, one, "o63,15,9,0,51,0,1;", 0);
            pair(term, one, "o63,15,15,21,51,0,1;", 0);
            pair(term, one, "o63,15,15,0,9,0,1;", 0);
        }
        pair("", "o32,8,8,51,51,1,1;", "o32,8,8,51,51,0,1;", 1);
        pair("", "o1,1,1,0,0,1,1;", "o1,1,1,0,0,0,1;", 1);
        pair("", "o1,1,1,0,0,1,1;", "o1,1,1,51,51,0,1;", 0);
        pair("", "o63,15,15,0,51,1,1;", "o63,15,15,0,51,0,1;", 4992);
    }

    private static void clashNeedsOneAlone() {
        Due.by("and CLASH, if they do and one of them is ALONE");
        for (int first = 0; first <= 1; first++) {
            for (int second = 0; second <= 1; second++) {
                ShowRights x = Due.signed("o1,1,1,0,9,0,1;o1,1,1,9,9," + first + ",1;o1,1,1,9,9," + second + ",1;", 3);
                Due.is("sign(1)", x.sign(1), 1);
                boolean clash = first + second > 0;
                Due.is("ALONE " + first + ", " + second + ": clash(2)", x.clash(2), clash ? 1 : Due.NONE);
                Due.is("ALONE " + first + ", " + second + ": why(2)", x.why(2), clash ? 3 : 0);
                Due.is("ALONE " + first + ", " + second + ": count(6)", x.count(6), first + second + (clash ? 1 : 0));
            }
        }
    }

    private static void beginIsTheLeast() {
        Due.by("BEGIN of a MEANS in a LAND: the least FIRST of OFFERS SIGNED that have both");
        // 0 to 4 have both; 5 has the LAND alone, 6 the MEANS alone
        ShowRights x = Due.laid("o2,1,4,20,30,0,1;o2,2,4,51,51,0,1;o2,4,4,19,19,0,1;o2,8,4,0,1,0,1;o63,1,15,21,22,0,1;"
                + "o2,1,11,0,0,0,1;o61,1,4,0,0,0,1;", 7);
        Due.is("sign(5)", x.sign(5), 1);
        Due.is("sign(6)", x.sign(6), 2);
        Due.is("the LAND alone, the MEANS alone", x.begin(1, 2), Due.NONE);
        int[] signed = {1, 4, 0, 2, 3};
        int[] least = {51, 21, 20, 19, 0};
        for (int n = 0; n < 5; n++) {
            Due.is("sign(" + signed[n] + ")", x.sign(signed[n]), n + 3);
            Due.is("begin(1, 2)", x.begin(1, 2), least[n]);
        }
        for (int n = 4; n > 0; n--) {
            Due.is("drop(" + signed[n] + ")", x.drop(signed[n]), n + 2);
            Due.is("begin(1, 2), one given up", x.begin(1, 2), least[n - 1]);
        }
        Due.is("drop(1)", x.drop(1), 2);
        Due.is("move(0, 3)", x.move(0, 3), 0);
        Due.is("sign(0)", x.sign(0), 3);
        Due.is("begin(1, 2), as it is MOVED", x.begin(1, 2), 23);
        Due.is("move(2, 5)", x.move(2, 5), 0);
        Due.is("sign(2)", x.sign(2), 4);
        Due.is("begin(1, 2), another MOVED behind it", x.begin(1, 2), 23);
    }

    private static void beginOfNone() {
        Due.by("BEGIN: none");
        ShowRights x = Due.laid("o63,15,15,0,51,0,1;", 1);
        for (int land = 0; land < 6; land++) {
            for (int means = 0; means < 4; means++) {
                Due.is("begin(" + land + ", " + means + ")", x.begin(land, means), Due.NONE);
            }
        }
        Due.is("sign(0)", x.sign(0), 1);
        Due.is("begin(5, 3)", x.begin(5, 3), 0);
        Due.is("drop(0)", x.drop(0), 0);
        Due.is("begin(5, 3), given up", x.begin(5, 3), Due.NONE);
    }

    private static void keptWithoutOne() {
        Due.by("A HOLD is KEPT in a LAND, if there is no BEGIN of B there, or none of A");
        ShowRights x = Due.laid("o1,1,1,9,9,0,1;o1,1,2,9,9,0,1;o2,1,2,9,9,0,1;h0,1,51;h1,0,51;", 3);
        Due.is("neither: broken(0)", x.broken(0), 0);
        Due.is("MEANS 0 alone: sign(0)", x.sign(0), 1);
        Due.is("A alone: broken(0)", x.broken(0), 0);
        Due.is("B alone: broken(1)", x.broken(1), 0);
        Due.is("MEANS 1 elsewhere: sign(2)", x.sign(2), 2);
        Due.is("broken(0)", x.broken(0), 0);
        Due.is("broken(1)", x.broken(1), 0);
        Due.is("both: why(1)", x.why(1), 4);
        Due.is("drop(0)", x.drop(0), 1);
        Due.is("MEANS 1 alone: why(1)", x.why(1), 0);
    }

    private static void keptByWeeks() {
        Due.by("A HOLD is KEPT, if BEGIN of A is N or more behind that of B");
        int[][] due = {
            {0, 1, 1, 1}, {1, 1, 1, 0}, {2, 1, 1, 0}, {0, 0, 1, 0}, {5, 14, 10, 0}, {5, 15, 10, 1}, {5, 16, 10, 1},
            {5, 4, 10, 0}, {15, 5, 10, 0}, {16, 5, 10, 0}, {0, 51, 51, 1}, {0, 50, 51, 0}, {1, 51, 51, 0}, {51, 0, 51, 0},
            {0, 51, 1, 1}, {50, 51, 1, 1}, {51, 51, 1, 0}};
        for (int[] row : due) {
            String b = "o1,1,1," + row[0] + "," + row[0] + ",0,1;";
            String a = "o1,1,2," + row[1] + "," + row[1] + ",0,1;";
            String hold = "h1,0," + row[2] + ";";
            int want = row[3] == 1 ? 0 : 4;
            Due.is("A comes: " + a + b + hold, Due.signed(b + a + hold, 2, 0).why(1), want);
            Due.is("B comes: " + a + b + hold, Due.signed(b + a + hold, 2, 1).why(0), want);
            Due.is("both: " + a + b + hold, Due.laid(b + a + hold, 2).best(0), row[3] + 1);
        }
        Due.is("one OFFER has both", Due.laid("o1,1,3,9,9,0,1;h1,0,1;", 1).why(0), 4);
    }

    private static void keptLandByLand() {
        Due.by("KEPT in a LAND: BEGIN there");
        // MEANS 1 in WEEK 10 in each LAND; MEANS 0 in WEEK 0 in all, given up then, and in WEEK 6 in LANDS 0, 3, 5
        ShowRights x = Due.signed("o63,1,1,0,0,0,1;o41,1,1,6,6,0,1;o63,1,2,10,10,0,1;h1,0,5;h1,0,4;h2,3,9;", 3, 0, 1, 2);
        Due.is("broken(0)", x.broken(0), 0);
        Due.is("drop(0)", x.drop(0), 2);
        Due.is("broken(0), 4 WEEKS of 5", x.broken(0), 41);
        Due.is("broken(1), 4 WEEKS of 4", x.broken(1), 0);
        Due.is("broken(2), other MEANS", x.broken(2), 0);
        for (int land = 0; land < 6; land++) {
            ShowRights one = Due.signed("o" + (1 << land) + ",1,1,9,9,0,1;o63,1,2,9,9,0,1;h1,0,1;", 2, 0);
            Due.is("why(1), LAND " + land, one.why(1), 4);
        }
    }

    private static void againstSigned() {
        Due.by("What speaks against an OFFER: 1 it is SIGNED");
        ShowRights x = Due.laid("o1,1,1,0,0,0,1;o1,1,1,0,0,0,1;", 2);
        Due.is("why(0)", x.why(0), 0);
        Due.is("sign(0)", x.sign(0), 1);
        Due.is("why(0)", x.why(0), 1);
        Due.is("why(1)", x.why(1), 0);
        Due.is("drop(0)", x.drop(0), 0);
        Due.is("why(0)", x.why(0), 0);
    }

    private static void againstTerm() {
        Due.by("What speaks against an OFFER: 2 a WEEK of it is not of the TERM");
        int[][] due = {{10, 20, 0}, {9, 20, 2}, {10, 21, 2}, {9, 21, 2}, {10, 10, 0}, {20, 20, 0}, {9, 9, 2}, {21, 21, 2},
            {0, 9, 2}, {21, 51, 2}, {0, 51, 2}, {9, 10, 2}, {20, 21, 2}, {11, 19, 0}};
        for (int[] row : due) {
            Due.is("WEEKS " + row[0] + " to " + row[1] + " in 10 to 20",
                    Due.laid("t10,20;o1,1,1," + row[0] + "," + row[1] + ",0,1;", 1).why(0), row[2]);
        }
        ShowRights x = Due.laid("t10,20;o1,1,1,9,19,0,1;", 1);
        Due.is("why(0), a WEEK ahead", x.why(0), 2);
        x.move(0, 1);
        Due.is("why(0), MOVED by 1", x.why(0), 0);
        x.move(0, 2);
        Due.is("why(0), MOVED by 2", x.why(0), 2);
    }

    private static void againstClash() {
        Due.by("What speaks against an OFFER: 3 it CLASHES with one that is SIGNED");
        ShowRights x = Due.laid("o1,1,1,0,9,1,1;o1,1,1,9,9,0,1;o1,1,1,10,19,1,1;", 3);
        Due.is("why(1), none is SIGNED", x.why(1), 0);
        Due.is("sign(2)", x.sign(2), 1);
        Due.is("why(1), another is SIGNED", x.why(1), 0);
        Due.is("sign(0)", x.sign(0), 2);
        Due.is("why(1)", x.why(1), 3);
        x.move(1, 1);
        Due.is("why(1), MOVED onto the other", x.why(1), 3);
        x.move(1, 11);
        Due.is("why(1), MOVED behind it", x.why(1), 0);
    }

    private static void againstHold() {
        Due.by("What speaks against an OFFER: 4 were it SIGNED, too, a HOLD would not be KEPT in some LAND");
        for (int h = 0; h < 4; h++) {
            String holds = "h0,1,1;".repeat(h) + "h3,2,5;" + "h0,1,1;".repeat(3 - h);
            ShowRights x = Due.signed("o32,1,4,9,9,0,1;o32,1,8,13,13,0,1;o32,1,8,14,14,0,1;" + holds, 3, 0);
            Due.is("why(1), HOLD " + h, x.why(1), 4);
            Due.is("why(2), HOLD " + h, x.why(2), 0);
        }
        // one that is not KEPT already speaks against all, but for one that mends it
        ShowRights y = Due.signed("o1,1,1,0,0,0,1;o1,1,1,8,8,0,1;o1,1,2,9,9,0,1;o2,2,4,9,9,0,1;h1,0,5;", 4, 0, 1, 2);
        Due.is("why(3)", y.why(3), 0);
        Due.is("drop(0)", y.drop(0), 2);
        Due.is("why(3), not KEPT", y.why(3), 4);
        Due.is("why(0), mends it", y.why(0), 0);
    }

    private static void againstTheFirst() {
        Due.by("What speaks against an OFFER (the first of these)");
        // 1 is out of the TERM, CLASHES with 0 and breaks the HOLD
        ShowRights x = Due.signed("t5,20;o1,1,1,5,9,1,1;o1,1,3,4,6,0,1;h1,0,9;", 2, 0);
        Due.is("why(0), CLASH and HOLD are of others", x.why(0), 1);
        Due.is("why(1), 2 of 2, 3, 4", x.why(1), 2);
        x.move(1, 1);
        Due.is("why(1), 3 of 3, 4", x.why(1), 3);
        x.move(1, 6);
        Due.is("why(1), 4", x.why(1), 4);
        ShowRights y = Due.signed("o1,1,1,0,0,0,1;o1,1,1,8,8,0,1;o1,1,2,9,9,0,1;h1,0,5;", 3, 0, 1, 2);
        y.drop(0);
        Due.is("why(1), 1 of 1, 4", y.why(1), 1);
    }

    private static void givenUp() {
        Due.by("One that is given up is SIGNED no more (HOLDS are not looked at)");
        ShowRights x = Due.signed("o1,1,1,0,0,0,3;o1,1,1,8,8,0,4;o1,1,2,9,9,0,5;h1,0,5;", 3, 0, 1, 2);
        Due.is("drop(0), though a HOLD is KEPT by it", x.drop(0), 2);
        Due.is("offer(0, 7)", x.offer(0, 7), 0);
        Due.is("broken(0)", x.broken(0), 1);
        Due.is("count(5)", x.count(5), 9);
        Due.is("drop(1), where a HOLD is not KEPT", x.drop(1), 1);
        Due.is("broken(0)", x.broken(0), 0);
        Due.is("drop(2), the last one", x.drop(2), 0);
        Due.is("points(1)", x.points(1), 0);
    }

    private static void movedAsTold() {
        Due.by("MOVED by d WEEKS (0 to 51): FIRST and LAST are those that were told, d later");
        ShowRights x = Due.laid("o1,1,1,3,5,0,1;o1,1,1,0,0,0,1;", 2);
        int[] moves = {7, 9, 1, 46, 45, 0, 1};
        int was = 0;
        for (int d : moves) {
            Due.is("move(0, " + d + ")", x.move(0, d), was);
            Due.is("offer(0, 3)", x.offer(0, 3), 3 + d);
            Due.is("offer(0, 4)", x.offer(0, 4), 5 + d);
            was = d;
        }
        Due.is("offer(0, 8)", x.offer(0, 8), 3);
        Due.is("move(1, 51)", x.move(1, 51), 0);
        Due.is("offer(1, 3)", x.offer(1, 3), 51);
        Due.is("move(1, 0)", x.move(1, 0), 51);
        Due.is("offer(1, 4)", x.offer(1, 4), 0);
        Due.is("move(1, 52)", x.move(1, 52), Due.BAD);
        Due.is("move(1, -1)", x.move(1, -1), Due.BAD);
    }

    private static void movedToTheLastWeek() {
        Due.by("MOVED, if LAST is 51 or less then");
        for (int last = 0; last <= 51; last++) {
            // LAST counts as it was told, not as it is MOVED now
            ShowRights x = Due.laid("t0,0;o1,1,1,0," + last + ",0,1;", 1);
            int farthest = 51 - last;
            Due.is("one WEEK too far", x.move(0, farthest + 1), farthest == 51 ? Due.BAD : Due.NO);
            if (farthest == 0) continue;
            Due.is("LAST is 51", x.move(0, farthest), 0);
            Due.is("offer(0, 4)", x.offer(0, 4), 51);
            Due.is("a WEEK more", x.move(0, farthest + 1), farthest == 51 ? Due.BAD : Due.NO);
            Due.is("back", x.move(0, farthest - 1), farthest);
        }
    }

    private static void movedUnsigned() {
        Due.by("MOVED is an OFFER that is not SIGNED");
        ShowRights x = Due.signed("o1,1,1,3,5,0,1;o1,1,1,3,5,0,1;", 2, 0);
        for (int d = 0; d <= 51; d++) Due.is("move(0, " + d + ")", x.move(0, d), Due.NO);
        Due.is("offer(0, 3)", x.offer(0, 3), 3);
        Due.is("move(1, 1), not SIGNED", x.move(1, 1), 0);
        Due.is("drop(0)", x.drop(0), 0);
        Due.is("move(0, 2), given up", x.move(0, 2), 0);
        Due.is("sign(0)", x.sign(0), 1);
        Due.is("offer(0, 3), SIGNED as it is MOVED", x.offer(0, 3), 5);
        Due.is("drop(0)", x.drop(0), 0);
        Due.is("move(0, 0), given up it is MOVED still", x.move(0, 0), 2);
    }

    private static void soonestFromNowOn() {
        Due.by("SOONEST: from that by which it is MOVED now on");
        // free are d 0 to 6 and d 15 to 48
        ShowRights x = Due.signed("o1,1,1,10,14,1,1;o1,1,1,0,3,0,1;", 2, 0);
        int[][] due = {{6, 6}, {7, 15}, {14, 15}, {15, 15}, {16, 16}, {48, 48}, {1, 1}, {0, 0}};
        Due.is("soonest(1)", x.soonest(1), 0);
        for (int[] row : due) {
            x.move(1, row[0]);
            Due.is("soonest(1), MOVED by " + row[0], x.soonest(1), row[1]);
            Due.is("it is MOVED as before", x.offer(1, 3), row[0]);
        }
        ShowRights y = Due.laid("t0,10;o1,1,1,0,3,0,1;", 1);
        y.move(0, 7);
        Due.is("soonest(0), the last WEEK of the TERM", y.soonest(0), 7);
        y.move(0, 8);
        Due.is("soonest(0), behind the TERM", y.soonest(0), Due.NONE);
    }

    private static void soonestIsTheLeast() {
        Due.by("SOONEST: the least d by which nothing speaks against it");
        ShowRights x = Due.signed("t5,30;o1,1,1,10,14,1,1;o1,1,1,0,4,0,1;o1,1,1,0,5,0,1;o1,2,2,0,0,0,1;o1,1,1,12,30,0,1;"
                + "o1,1,1,7,51,0,1;h1,0,16;", 6, 0);
        Due.is("soonest(1), into the TERM, ahead of 0", x.soonest(1), 5);
        Due.is("soonest(2), too long for that", x.soonest(2), 15);
        Due.is("soonest(3), behind the HOLD", x.soonest(3), 26);
        Due.is("soonest(4), behind the TERM", x.soonest(4), Due.NONE);
        Due.is("soonest(5), can't be MOVED", x.soonest(5), Due.NONE);
        ShowRights y = Due.signed("o1,1,1,0,50,1,1;o1,1,1,0,0,0,1;o1,1,1,0,1,0,1;o2,1,1,0,51,0,1;", 4, 0);
        Due.is("soonest(1), the last WEEK", y.soonest(1), 51);
        Due.is("soonest(2), no WEEK behind it", y.soonest(2), Due.NONE);
        Due.is("soonest(3), as it is", y.soonest(3), 0);
    }

    private static void pointsAre(ShowRights x, String when, int... due) {
        for (int what = 0; what < due.length; what++) {
            Due.is("points(" + what + "), " + when, x.points(what), due[what]);
        }
    }

    private static void sold() {
        Due.by("SOLD is a POINT of the TERM that an OFFER that is SIGNED has");
        ShowRights x = Due.laid("t10,19;o1,1,1,10,10,0,1;o32,8,8,19,19,0,1;o63,15,15,10,19,0,1;", 3);
        pointsAre(x, "none is SIGNED", 960, 0, 0, 0, 960);
        x.sign(0);
        pointsAre(x, "the first POINT", 960, 1, 0, 0, 959);
        x.sign(1);
        pointsAre(x, "the last one, too", 960, 2, 0, 0, 958);
        x.sign(2);
        pointsAre(x, "all", 960, 960, 2, 0, 0);
        x.drop(2);
        pointsAre(x, "given up", 960, 2, 0, 0, 958);
    }

    private static void twice() {
        Due.by("TWICE, if two or more have it");
        ShowRights x = Due.laid("o1,1,1,5,5,0,1;o1,1,1,5,6,0,1;o1,1,1,4,5,0,1;o1,1,1,5,5,0,1;", 4);
        int[] twice = {0, 1, 1, 1};
        for (int i = 0; i < 4; i++) {
            x.sign(i);
            Due.is("points(2), " + (i + 1) + " have it", x.points(2), twice[i]);
            Due.is("point(.., 0)", x.point(0, 0, 0, 5, 0), i + 1);
        }
        Due.is("points(1)", x.points(1), 3);
        ShowRights y = Due.signed("o63,15,15,0,51,0,1;o63,15,15,0,51,0,1;o63,15,15,0,51,0,1;", 3, 0, 1, 2);
        pointsAre(y, "all of them thrice", 4992, 4992, 4992, 0, 0);
        // what two have stays TWICE, whatever others of the same LAND, TONGUE and MEANS are SIGNED behind them
        ShowRights z = Due.signed("o1,1,1,0,5,0,1;o1,1,1,3,8,0,1;o1,1,1,20,25,0,1;o1,1,1,25,30,0,1;o1,1,1,40,40,1,1;", 5, 0, 1);
        int[] more = {3, 4, 4};
        for (int i = 2; i < 5; i++) {
            Due.is("sign(" + i + ")", z.sign(i), i + 1);
            Due.is("points(2), apart from the first two", z.points(2), more[i - 2]);
        }
    }

    private static void alone() {
        Due.by("ALONE, if one that is ALONE has it");
        ShowRights x = Due.laid("o1,1,1,5,7,1,1;o1,1,1,8,9,0,1;o2,1,1,5,5,1,1;", 3);
        Due.is("point(.., 1), not SIGNED", x.point(0, 0, 0, 5, 1), 0);
        x.sign(0);
        x.sign(1);
        int[] due = {0, 1, 1, 1, 0, 0, 0};
        for (int week = 4; week <= 10; week++) {
            Due.is("point(0, 0, 0, " + week + ", 1)", x.point(0, 0, 0, week, 1), due[week - 4]);
        }
        pointsAre(x, "0 and 1", 4992, 5, 0, 3, 4987);
        x.sign(2);
        pointsAre(x, "0, 1 and 2", 4992, 6, 0, 4, 4986);
        pointsAre(Due.signed("o63,15,15,0,51,1,1;", 1, 0), "all", 4992, 4992, 0, 4992, 0);
        // two that are ALONE, apart from each other in one LAND, TONGUE and MEANS, with one beside them
        ShowRights y = Due.signed("o1,1,1,10,14,1,1;o1,1,1,0,3,1,1;o1,1,1,20,20,0,1;", 3, 0, 1, 2);
        pointsAre(y, "two of one MEANS", 4992, 10, 0, 9, 4982);
        Due.is("point(.., 1) of the first", y.point(0, 0, 0, 10, 1), 1);
        Due.is("point(.., 1) of the second", y.point(0, 0, 0, 3, 1), 1);
        Due.is("point(.., 1) of the third", y.point(0, 0, 0, 20, 1), 0);
    }

    private static void left() {
        Due.by("LEFT, if none has");
        ShowRights x = Due.signed("t51,51;o63,15,7,51,51,0,1;o63,15,8,51,51,0,1;", 2, 0);
        pointsAre(x, "one WEEK, one MEANS", 96, 72, 0, 0, 24);
        x.sign(1);
        pointsAre(x, "one WEEK, nothing", 96, 96, 0, 0, 0);
        pointsAre(Due.laid("t0,0;o1,1,1,0,0,0,1;", 1), "one WEEK, all", 96, 0, 0, 0, 96);
    }

    private static void windowsAre(ShowRights x, String when, int... weeks) {
        int many = weeks.length / 2;
        Due.is("window(.., -1, 0), " + when, x.window(5, 3, 3, -1, 0), many);
        Due.is("window(.., -1, 1), " + when, x.window(5, 3, 3, -1, 1), many);
        for (int k = 0; k < many; k++) {
            Due.is("window(.., " + k + ", 0), " + when, x.window(5, 3, 3, k, 0), weeks[2 * k]);
            Due.is("window(.., " + k + ", 1), " + when, x.window(5, 3, 3, k, 1), weeks[2 * k + 1]);
        }
        Due.is("window(.., " + many + ", 0), " + when, x.window(5, 3, 3, many, 0), Due.NONE);
        Due.is("window(.., " + many + ", 1), " + when, x.window(5, 3, 3, many, 1), Due.NONE);
    }

    private static ShowRights soldSpans(String term, int... weeks) {
        StringBuilder text = new StringBuilder(term);
        for (int n = 0; n < weeks.length; n += 2) {
            text.append("o32,8,8,").append(weeks[n]).append(",").append(weeks[n + 1]).append(",0,1;");
        }
        ShowRights x = Due.laid(text.toString(), weeks.length / 2);
        for (int i = 0; i < weeks.length / 2; i++) Due.is("sign(" + i + ")", x.sign(i), i + 1);
        return x;
    }

    private static void windows() {
        Due.by("A WINDOW: WEEKS side by side, as long as can be, whose POINTS are LEFT; 0 the earliest");
        windowsAre(Due.laid("o32,8,8,0,51,0,1;", 1), "nothing is SIGNED", 0, 51);
        windowsAre(soldSpans("", 0, 51), "nothing is LEFT");
        windowsAre(soldSpans("", 0, 0), "behind the first WEEK", 1, 51);
        windowsAre(soldSpans("", 51, 51), "ahead of the last WEEK", 0, 50);
        windowsAre(soldSpans("", 0, 50), "the last WEEK", 51, 51);
        windowsAre(soldSpans("", 1, 51), "the first WEEK", 0, 0);
        windowsAre(soldSpans("", 1, 50), "the first and the last WEEK", 0, 0, 51, 51);
        windowsAre(soldSpans("", 20, 30), "both sides", 0, 19, 31, 51);
        windowsAre(soldSpans("", 20, 30, 31, 40), "two side by side", 0, 19, 41, 51);
        windowsAre(soldSpans("", 20, 30, 32, 40), "a WEEK between two", 0, 19, 31, 31, 41, 51);
        windowsAre(soldSpans("", 32, 40, 25, 35, 20, 30), "one across two", 0, 19, 41, 51);
        windowsAre(soldSpans("", 49, 49, 1, 1, 9, 9, 3, 3, 7, 7, 5, 5), "many", 0, 0, 2, 2, 4, 4, 6, 6, 8, 8, 10, 48, 50, 51);
    }

    private static void windowsOfTheTerm() {
        Due.by("LEFT is a POINT of the TERM");
        windowsAre(Due.laid("t10,20;o1,1,1,10,10,0,1;", 1), "the TERM", 10, 20);
        windowsAre(soldSpans("t10,20;", 10, 20), "no WEEK of the TERM");
        windowsAre(soldSpans("t10,20;", 10, 10), "behind its first WEEK", 11, 20);
        windowsAre(soldSpans("t10,20;", 20, 20), "ahead of its last WEEK", 10, 19);
        windowsAre(soldSpans("t10,20;", 11, 19), "its first and its last WEEK", 10, 10, 20, 20);
        windowsAre(Due.laid("t51,51;o1,1,1,51,51,0,1;", 1), "the last WEEK", 51, 51);
        windowsAre(Due.laid("t0,0;o1,1,1,0,0,0,1;", 1), "the first WEEK", 0, 0);
    }

    private static void longestIs(ShowRights x, String when, int... due) {
        for (int what = 0; what < 5; what++) {
            Due.is("longest(" + what + "), " + when, x.longest(what), due.length == 0 ? Due.NONE : due[what]);
        }
    }

    private static void longest() {
        Due.by("LONGEST WINDOW: of all");
        longestIs(Due.laid("o1,1,1,0,0,0,1;", 1), "nothing is SIGNED", 52, 0, 0, 0, 0);
        longestIs(Due.laid("t51,51;o1,1,1,51,51,0,1;", 1), "a TERM of one WEEK", 1, 0, 0, 0, 51);
        longestIs(Due.signed("t9,9;o63,15,15,9,9,0,1;", 1, 0), "nothing is LEFT");
        longestIs(Due.signed("o63,15,15,0,50,0,1;", 1, 0), "the last WEEK", 1, 0, 0, 0, 51);
        longestIs(Due.signed("o63,15,15,1,51,0,1;", 1, 0), "the first WEEK", 1, 0, 0, 0, 0);
        String all = "o63,15,15,10,41,0,1;o31,15,15,9,9,0,1;o63,7,15,9,9,0,1;o63,15,7,9,9,0,1;o63,15,15,42,42,0,1;";
        longestIs(Due.signed(all, 5, 0, 1, 2, 3, 4), "the last of all", 10, 5, 3, 3, 0);
        ShowRights x = Due.signed("t0,9;o31,15,15,0,9,0,1;o32,7,15,0,9,0,1;o32,8,7,0,9,0,1;o32,8,8,0,8,0,1;", 4, 0, 1, 2, 3);
        longestIs(x, "one POINT is LEFT", 1, 5, 3, 3, 9);
    }

    private static void longestOfSeveral() {
        Due.by("LONGEST WINDOW: of several the first (by LAND, TONGUE, MEANS, then the earliest)");
        // two WINDOWS of five WEEKS in each LAND, TONGUE and MEANS
        String spans = "t2,15;o63,15,15,7,8,0,1;o63,15,15,14,15,0,1;";
        longestIs(Due.signed(spans + "o1,1,1,2,2,0,1;", 3, 0, 1), "of all alike", 5, 0, 0, 0, 2);
        longestIs(Due.signed(spans + "o1,1,1,2,2,0,1;", 3, 0, 1, 2), "a later one, the same MEANS", 5, 0, 0, 0, 9);
        longestIs(Due.signed(spans + "o1,1,1,2,9,0,1;", 3, 0, 1, 2), "another MEANS", 5, 0, 0, 1, 2);
        longestIs(Due.signed(spans + "o1,1,15,2,9,0,1;", 3, 0, 1, 2), "another TONGUE", 5, 0, 1, 0, 2);
        longestIs(Due.signed(spans + "o1,15,15,2,9,0,1;", 3, 0, 1, 2), "another LAND", 5, 1, 0, 0, 2);
        // LAND goes ahead of TONGUE, TONGUE ahead of MEANS, MEANS ahead of the earliest
        longestIs(Due.signed(spans + "o1,15,7,2,9,0,1;o1,7,8,2,9,0,1;", 4, 0, 1, 2, 3), "LAND first", 5, 0, 3, 3, 2);
        longestIs(Due.signed(spans + "o1,1,7,2,9,0,1;o1,1,8,2,2,0,1;", 4, 0, 1, 2, 3), "TONGUE, MEANS first", 5, 0, 0, 3, 9);
    }

    private static void bestIs(String text, int offers, int price, int set) {
        ShowRights x = Due.laid(text, offers);
        Due.is("best(0) of " + text, x.best(0), price);
        Due.is("best(1) of " + text, x.best(1), set);
    }

    private static void bestWithin() {
        Due.by("BEST SET: all are within the TERM, no two CLASH, and all HOLDS are KEPT in all LANDS");
        bestIs("t5,9;o1,1,1,4,9,0,50;o1,1,1,5,9,0,3;o1,1,1,5,10,0,60;", 3, 3, 2);
        bestIs("t5,9;o1,1,1,4,9,0,50;o1,1,1,5,10,0,60;", 2, 0, 0);
        bestIs("o1,1,1,0,9,1,5;o1,1,1,9,12,0,6;", 2, 6, 2);
        bestIs("o1,1,1,0,9,1,5;o1,1,1,10,12,0,6;", 2, 11, 3);
        bestIs("o1,1,1,0,9,0,5;o1,1,1,9,12,0,6;", 2, 11, 3);
        bestIs("o32,1,1,0,5,0,9;o32,1,2,4,9,0,8;h2,3,1;h2,3,1;h2,3,1;h1,0,5;", 2, 9, 1);
        bestIs("o32,1,1,0,5,0,9;o32,1,2,5,9,0,8;h2,3,1;h2,3,1;h2,3,1;h1,0,5;", 2, 17, 3);
        bestIs("o1,1,3,0,5,0,9;h1,0,1;", 1, 0, 0);
        // two break the HOLD that three keep
        bestIs("o1,1,1,20,25,0,9;o1,1,2,22,30,0,8;o1,1,1,1,1,0,1;h1,0,5;", 3, 18, 7);
    }

    private static void bestIsMost() {
        Due.by("BEST SET: that whose PRICES together are most");
        bestIs("o1,1,1,0,0,0,1;", 1, 1, 1);
        bestIs("o1,1,1,0,0,0,99;".repeat(10), 10, 990, 1023);
        bestIs("o1,1,1,0,0,1,98;".repeat(9) + "o1,1,1,0,0,1,99;", 10, 99, 512);
        bestIs("o3,1,1,0,0,1,9;o1,1,1,0,0,1,4;o2,1,1,0,0,1,6;", 3, 10, 6);
        bestIs("o3,1,1,0,0,1,11;o1,1,1,0,0,1,4;o2,1,1,0,0,1,6;", 3, 11, 1);
    }

    private static void bestOfSeveral() {
        Due.by("BEST SET: of several that of the fewest OFFERS, of several the least as bits (OFFER 0 is bit 0)");
        bestIs("o1,1,1,0,0,1,4;o2,1,1,0,0,1,4;o3,1,1,0,0,1,8;", 3, 8, 4);
        bestIs("o3,1,1,0,0,1,8;o1,1,1,0,0,1,4;o2,1,1,0,0,1,4;", 3, 8, 1);
        bestIs("o1,1,1,0,0,1,4;".repeat(10), 10, 4, 1);
        bestIs("t1,9;o1,1,1,0,0,1,4;o1,1,1,1,1,1,4;o1,1,1,1,1,1,4;", 3, 4, 2);
        // 0 with 3, or 1 with 2: as bits 9 and 6
        bestIs("o3,1,1,0,0,1,5;o1,1,1,0,1,1,4;o2,1,1,0,1,1,6;o3,1,1,1,1,1,5;", 4, 10, 6);
        // three of 0, 1, 2 or two of 3, 4: the fewest go ahead of the least as bits
        bestIs("o1,1,1,0,0,1,2;o2,1,1,0,0,1,3;o4,1,1,0,0,1,5;o3,1,1,0,0,1,4;o4,1,1,0,0,1,6;", 5, 11, 19);
        bestIs("o1,1,1,0,0,1,2;o2,1,1,0,0,1,3;o4,1,1,0,0,1,5;o3,1,1,0,0,1,5;o4,1,1,0,0,1,5;", 5, 10, 12);
    }

    private static void bestIsJustThey() {
        Due.by("BEST SET: (those SIGNED or not, as they are MOVED now), were just they SIGNED");
        ShowRights x = Due.signed("t0,20;o1,1,1,0,9,1,10;o1,1,1,5,9,1,11;", 2, 0);
        Due.is("best(1), 0 is SIGNED", x.best(1), 2);
        x.move(1, 5);
        Due.is("best(1), 1 is MOVED", x.best(1), 3);
        x.move(1, 11);
        Due.is("best(1), MOVED to the TERM's end", x.best(1), 3);
        x.move(1, 12);
        Due.is("best(1), MOVED out of the TERM", x.best(1), 1);
        ShowRights y = Due.signed("o1,1,1,0,0,0,1;o1,1,1,9,9,0,9;o1,1,2,10,10,0,8;h1,0,5;", 3, 0, 1, 2);
        y.drop(0);
        Due.is("broken(0)", y.broken(0), 1);
        Due.is("best(1), what is SIGNED breaks a HOLD", y.best(1), 7);
    }

    private static void changes() {
        Due.by("A change: an OFFER SIGNED, given up, MOVED, BEST SET SIGNED in place of all that are. UNDONE is the latest change");
        ShowRights x = Due.laid("o1,1,1,0,4,1,5;o1,1,1,3,9,1,6;o2,1,1,3,9,1,1;", 3);
        Due.is("move(0, 2)", x.move(0, 2), 0);
        Due.is("sign(0)", x.sign(0), 1);
        Due.is("take()", x.take(), 2);
        Due.is("drop(2)", x.drop(2), 1);
        Due.is("count(7)", x.count(7), 4);
        int[][] due = {{3, 7, 2}, {2, 5, 2}, {1, 0, 2}, {0, 0, 0}};
        for (int[] row : due) {
            Due.is("undo()", x.undo(), row[0]);
            Due.is("count(7)", x.count(7), row[0]);
            Due.is("count(5)", x.count(5), row[1]);
            Due.is("offer(0, 3)", x.offer(0, 3), row[2]);
        }
        Due.is("undo() of none", x.undo(), Due.NO);
        // of several OFFERS MOVED just the latest goes back
        for (int i = 0; i < 3; i++) x.move(i, i + 1);
        int[] firsts = {1, 5, 6};
        for (int i = 2; i >= 0; i--) {
            for (int j = 0; j <= i; j++) Due.is("offer(" + j + ", 3)", x.offer(j, 3), firsts[j]);
            Due.is("undo()", x.undo(), i);
            Due.is("offer(" + i + ", 3), as it was", x.offer(i, 3), i == 0 ? 0 : 3);
        }
        // UNDONE is no change itself, and what is UNDONE can be done anew
        Due.is("sign(1)", x.sign(1), 1);
        Due.is("undo()", x.undo(), 0);
        Due.is("undo(), not back again", x.undo(), Due.NO);
        Due.is("sign(1)", x.sign(1), 1);
    }

    private static void lastSix() {
        Due.by("UNDONE: the last 6 can be");
        for (int many = 0; many <= 14; many++) {
            ShowRights x = Due.laid("o1,1,1,0,4,1,5;", 1);
            for (int d = 1; d <= many; d++) x.move(0, d);
            int can = Math.min(many, 6);
            Due.is("count(7) behind " + many, x.count(7), can);
            for (int more = can - 1; more >= 0; more--) {
                Due.is("undo() behind " + many, x.undo(), more);
                Due.is("offer(0, 3)", x.offer(0, 3), many - can + more);
            }
            Due.is("undo() of one more", x.undo(), Due.NO);
            Due.is("offer(0, 3) stays", x.offer(0, 3), many - can);
            Due.is("a change again", x.move(0, 40), many - can);
            Due.is("undo()", x.undo(), 0);
            Due.is("offer(0, 3)", x.offer(0, 3), many - can);
        }
    }

    private static void changeOfNothing() {
        Due.by("UNDONE: such by which nothing becomes another, too");
        ShowRights x = Due.laid("o1,1,1,0,4,1,5;o1,1,1,3,9,1,6;", 2);
        x.sign(0);
        for (int n = 1; n <= 3; n++) Due.is("take()", x.take(), 1);
        Due.is("count(7)", x.count(7), 4);
        Due.is("undo()", x.undo(), 3);
        Due.is("count(5)", x.count(5), 6);
        Due.is("undo()", x.undo(), 2);
        Due.is("count(5)", x.count(5), 6);
        Due.is("undo()", x.undo(), 1);
        Due.is("count(5)", x.count(5), 5);
        // where no set but the empty one fits, and none is SIGNED
        ShowRights y = Due.laid("t0,0;o1,1,1,1,1,0,1;", 1);
        for (int n = 1; n <= 7; n++) {
            Due.is("take() of none", y.take(), 0);
            Due.is("count(7)", y.count(7), Math.min(n, 6));
        }
        Due.is("undo()", y.undo(), 5);
    }

    private static void noneBehindLaid() {
        Due.by("UNDONE: behind LAID none can be");
        ShowRights x = Due.laid("o1,1,1,0,4,1,5;", 1);
        Due.is("undo() behind lay()", x.undo(), Due.NO);
        for (int d = 1; d <= 8; d++) x.move(0, d);
        Due.is("count(7)", x.count(7), 6);
        Due.is("lay()", x.lay(), 1);
        Due.is("count(7) behind lay()", x.count(7), 0);
        Due.is("undo() behind lay()", x.undo(), Due.NO);
        Due.is("offer(0, 3)", x.offer(0, 3), 0);
        x.sign(0);
        x.wipe();
        Due.is("lay() that is refused", x.lay(), Due.NO);
        Due.is("undo() behind NO", x.undo(), 0);
        Due.is("undo() of a new object", new ShowRights().undo(), Due.NO);
    }
}
