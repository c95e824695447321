/** Promises 21 to 26: who said what. */
final class JournalTests {
    private static final int NONE = -1, UNKNOWN = -1000000001, OUTSIDE = -1000000002, FULL = -1000000004;
    private static final int LEAST = Integer.MIN_VALUE, MOST = Integer.MAX_VALUE;

    /** A row of PLACES: 0 -3- 1 -4- 2 -5- 3 -4- 4; PLACE 5 is by itself. PERSON 0 is at 1, PERSON 1 at 0. */
    private static final String ROW = "places 6;way 0 1 3;way 1 2 4;way 2 3 5;way 3 4 4;"
        + "person 1 4 9 silent knows 0,1,2,3;person 0 2 9 first knows 0,1;";

    private JournalTests() {
    }

    static void run(Tally tally) {
        missing(tally);
        lackAndFits(tally);
        log(tally);
        clear(tally);
        judge(tally);
        judgeByLaw(tally);
    }

    private static void missing(Tally tally, ToldWays ways, int p, int... pairs) {
        for (int i = 0; i + 1 < pairs.length; i += 2) {
            tally.due("missing(" + p + ", " + pairs[i] + ")", pairs[i + 1], ways.missing(p, pairs[i]));
        }
    }

    private static void missing(Tally tally) {
        tally.begin("promise 21, missing");
        ToldWays ways = Fed.landOf(ROW);
        missing(tally, ways, 0, 0, 0, 3, 1, 4, 4, 9, 8, 13, 16, 5, 0, 999, 0);
        missing(tally, ways, 1, 3, 2, 7, 4, 12, 0);
        for (int habit = 0; habit < 4; habit++) {
            ways.habit(0, habit);
            missing(tally, ways, 0, 4, 4, 9, 8);
        }
        ways.law(1);
        missing(tally, ways, 0, 0, 0, 3, 1, 4, 28, 9, 0);
        ways.law(2);
        missing(tally, ways, 0, 4, 0, 6, 1, 8, 4, 18, 8, 26, 16);
        ways.law(3);
        missing(tally, ways, 0, 3, 1, 4, 12, 9, 16, 0, 0);
        ways.law(0);
        ways.learn(0, 3, false);
        missing(tally, ways, 0, 13, 0, 9, 8);
        for (int x : new int[] {-1, 2, LEAST, MOST}) {
            tally.due("missing(" + x + ", 4)", UNKNOWN, ways.missing(x, 4));
            tally.due("missing(" + x + ", -1)", UNKNOWN, ways.missing(x, -1));
        }
        for (int m : new int[] {-1, 1000, LEAST, MOST}) {
            tally.due("missing(0, " + m + ")", OUTSIDE, ways.missing(0, m));
        }
    }

    private static void lackAndFits(Tally tally) {
        tally.begin("promises 22, 23, lack and fits");
        ToldWays ways = Fed.landOf(ROW);
        tally.due("fits()", 1, ways.fits());
        tally.due("lack(2, 4)", UNKNOWN, ways.lack(2, 4));
        tally.due("lack(-1, -1)", UNKNOWN, ways.lack(-1, -1));
        tally.due("lack(0, -1)", OUTSIDE, ways.lack(0, -1));
        tally.due("lack(0, 1000)", OUTSIDE, ways.lack(0, 1000));
        tally.due("told(6)", 0, ways.told(6));
        for (int i = 1; i <= 6; i++) {
            tally.due("lack(0, 9)", i, ways.lack(0, 9));
        }
        tally.due("fits()", 1, ways.fits());
        tally.due("lack(1, 7)", 7, ways.lack(1, 7));
        tally.due("fits()", 1, ways.fits());
        tally.due("lack(1, 999)", 8, ways.lack(1, 999));
        tally.due("fits()", 0, ways.fits());
        tally.due("lack(1, 7)", FULL, ways.lack(1, 7));
        tally.due("lack(1, 1000)", OUTSIDE, ways.lack(1, 1000));
        tally.due("lack(9, 7)", UNKNOWN, ways.lack(9, 7));
        tally.due("told(6)", 8, ways.told(6));
        ways.clear();
        ways.lack(0, 9);
        ways.lack(1, 3);
        tally.due("fits()", 1, ways.fits());
        // By LAW and by what is known as it is when it is asked.
        ways.law(1);
        tally.due("fits() by LAW 1", 0, ways.fits());
        ways.law(0);
        ways.learn(1, 0, false);
        tally.due("fits() without WAY 0", 0, ways.fits());
        ways.learn(1, 0, true);
        tally.due("fits()", 1, ways.fits());
        ways.lack(0, 0);
        tally.due("fits(): nobody is missing for no minutes", 0, ways.fits());
    }

    private static void log(Tally tally) {
        tally.begin("promise 24, log");
        ToldWays ways = Fed.landOf(ROW);
        for (int x : new int[] {-1, 6, LEAST, MOST}) {
            tally.due("log(" + x + ", 0, 0, 0)", UNKNOWN, ways.log(x, 0, 0, 0));
            tally.due("log(0, " + x + ", 10, 0)", UNKNOWN, ways.log(0, x, 10, 0));
            tally.due("log(0, 0, -1, " + x + ")", UNKNOWN, ways.log(0, 0, -1, x));
        }
        tally.due("log(2, 0, 0, 0)", UNKNOWN, ways.log(2, 0, 0, 0));
        for (int pieces : new int[] {-1, 10, LEAST, MOST}) {
            tally.due("log(0, 0, " + pieces + ", 0)", OUTSIDE, ways.log(0, 0, pieces, 0));
        }
        tally.due("told(5)", 0, ways.told(5));
        for (int i = 1; i <= 30; i++) {
            tally.due("log(1, 5, 9, 5)", i, ways.log(1, 5, i % 10, 5));
        }
        tally.due("log(0, 0, 0, 0)", FULL, ways.log(0, 0, 0, 0));
        tally.due("log(0, 0, 10, 0)", OUTSIDE, ways.log(0, 0, 10, 0));
        tally.due("log(0, 6, 10, 0)", UNKNOWN, ways.log(0, 6, 10, 0));
        tally.due("told(5)", 30, ways.told(5));
    }

    private static void clear(Tally tally) {
        tally.begin("promise 25, clear");
        ToldWays ways = Fed.landOf(ROW);
        ways.log(1, 5, 9, 5);
        ways.log(1, 5, 9, 5);
        ways.lack(0, 0);
        tally.due("judge()", 0, ways.judge());
        tally.due("clear()", 3, ways.clear());
        tally.due("clear()", 0, ways.clear());
        tally.due("judge()", NONE, ways.judge());
        tally.due("fits()", 1, ways.fits());
        tally.due("told(5)", 0, ways.told(5));
        tally.due("told(6)", 0, ways.told(6));
        tally.due("log(1, 0, 0, 0)", 1, ways.log(1, 0, 0, 0));
        tally.due("lack(0, 9)", 1, ways.lack(0, 9));
        for (int i = 0; i < 40; i++) {
            ways.log(0, 0, 0, 1);
            ways.lack(0, 9);
        }
        tally.due("clear()", 38, ways.clear());
    }

    private static void judged(Tally tally, int law, int p, int t, int pieces, int went, boolean can) {
        ToldWays ways = Fed.landOf(ROW);
        ways.law(law);
        ways.log(0, 1, 0, 1);
        ways.log(p, t, pieces, went);
        tally.due("by LAW " + law + " judge() of " + p + ", " + t + ", " + pieces + ", " + went, can ? NONE : 1, ways.judge());
    }

    private static void judge(Tally tally) {
        tally.begin("promise 26, judge");
        judged(tally, 0, 0, 4, 3, 4, true);
        judged(tally, 0, 0, 4, 4, 4, false);
        judged(tally, 0, 0, 4, 9, 4, false);
        judged(tally, 0, 0, 4, 2, 3, true);
        judged(tally, 0, 0, 4, 2, 4, false);
        judged(tally, 0, 0, 4, 0, 1, true);
        judged(tally, 0, 0, 4, 0, 2, false);
        judged(tally, 0, 0, 0, 1, 0, true);
        judged(tally, 0, 1, 2, 1, 1, true);
        judged(tally, 0, 1, 2, 2, 2, true);
        // No ROUTE: it can say nothing and stay.
        judged(tally, 0, 1, 4, 0, 0, true);
        judged(tally, 0, 1, 4, 1, 1, false);
        judged(tally, 0, 1, 4, 1, 0, false);
        judged(tally, 0, 1, 5, 0, 5, false);
        // Asked for where it is.
        judged(tally, 0, 0, 1, 0, 1, true);
        judged(tally, 0, 0, 1, 1, 1, false);
        judged(tally, 0, 0, 1, 0, 0, false);
        ToldWays ways = Fed.landOf(ROW);
        ways.log(0, 4, 3, 4);
        ways.log(1, 2, 1, 1);
        tally.due("judge()", NONE, ways.judge());
        ways.log(1, 2, 2, 1);
        ways.log(1, 2, 2, 0);
        tally.due("judge()", 2, ways.judge());
        ways.learn(1, 1, false);
        tally.due("judge() when less is known", 1, ways.judge());
        ways.law(2);
        tally.due("judge() by another LAW", 0, ways.judge());
    }

    private static void judgeByLaw(Tally tally) {
        tally.begin("promise 26, judge by law");
        for (int pieces = 1; pieces <= 3; pieces++) {
            judged(tally, 1, 0, 4, pieces, 2, true);
            judged(tally, 1, 0, 4, pieces, 4, false);
            judged(tally, 2, 0, 4, pieces, 1, true);
            judged(tally, 2, 0, 4, pieces, pieces + 1, false);
        }
        judged(tally, 3, 0, 4, 1, 2, true);
        judged(tally, 3, 0, 4, 2, 2, true);
        judged(tally, 3, 0, 4, 3, 3, true);
        judged(tally, 3, 0, 4, 2, 3, false);
        for (int law = 0; law < 4; law++) {
            judged(tally, law, 0, 4, 4, 1, false);
            judged(tally, law, 0, 4, 0, 1, true);
            judged(tally, law, 0, 4, 0, 0, false);
            judged(tally, law, 1, 5, 0, 0, true);
        }
    }
}
