/** The sentences on who said what, draws and images (promises 21 to 30) that name an edge, each with a test of its own. */
final class JournalEdgeTests {
    private static final int NONE = -1, UNKNOWN = -1000000001, OUTSIDE = -1000000002, NOT = -1000000003, FULL = -1000000004;
    private static final int LEAST = Integer.MIN_VALUE, MOST = Integer.MAX_VALUE;

    private JournalEdgeTests() {
    }

    static void run(Tally tally) {
        missingNone(tally);
        missingOfMany(tally);
        missingBounds(tally);
        eightMissing(tally);
        fitsOfAll(tally);
        logBounds(tally);
        logFull(tally);
        wrongIsTheFirst(tally);
        morePieces(tally);
        withNoneItStays(tally);
        cleared(tally);
        seedBounds(tally);
        seedLeftOver(tally);
        driftBounds(tally);
        driftAtOnce(tally);
        driftOfOne(tally);
        driftLost(tally);
        imagesThereAre(tally);
        imagesKeepNoMore(tally);
        imageNotKept(tally);
    }

    /** Ten PLACES in a row, 99 minutes each. */
    private static String row() {
        StringBuilder text = new StringBuilder("places 10;");
        for (int a = 0; a < 9; a++) {
            text.append("way " + a + " " + (a + 1) + " 99;");
        }
        return text.toString();
    }

    // ---- promises 21 to 23

    private static void missingNone(Tally tally) {
        tally.begin("promise 21: the SET of no PLACE");
        ToldWays ways = Fed.landOf("places 3;way 0 1 5;person 0 0 0 whole knows 0;person 2 0 0 whole;");
        for (int law = 0; law < 4; law++) {
            ways.law(law);
            // Of 0 minutes there is no t, for a is not t; of others no ROUTE is so long.
            for (int m : new int[] {0, 1, 4, 6, 9, 11, 999}) {
                tally.due("by LAW " + law + " missing(0, " + m + ")", 0, ways.missing(0, m));
            }
            for (int m : new int[] {0, 5, 10, 999}) {
                tally.due("of one who KNOWS nothing missing(1, " + m + ")", 0, ways.missing(1, m));
            }
            tally.due("by LAW " + law + " missing(0, 5)", law == 2 ? 0 : 2, ways.missing(0, 5));
            tally.due("by LAW " + law + " missing(0, 10)", law == 2 ? 2 : 0, ways.missing(0, 10));
        }
    }

    private static void missingOfMany(Tally tally) {
        tally.begin("promise 21: the SET of all other PLACES");
        StringBuilder text = new StringBuilder("places 10;");
        for (int b = 0; b < 10; b++) {
            text.append(b == 4 ? "" : "way 4 " + b + " 7;");
        }
        ToldWays ways = Fed.landOf(text + "person 4 0 0 silent knows 0,1,2,3,4,5,6,7,8;");
        tally.due("missing(0, 7)", 1023 - 16, ways.missing(0, 7));
        ways.law(2);
        tally.due("missing(0, 14)", 1023 - 16, ways.missing(0, 14));
        ways.learn(0, 8, false);
        tally.due("missing(0, 14)", 511 - 16, ways.missing(0, 14));
        // In a row by LAW 1 all the same, for it goes but one PIECE.
        ToldWays row = Fed.landOf(row() + "person 0 0 0 first knows 0,1,2,3,4,5,6,7,8;");
        row.law(1);
        tally.due("missing(0, 99)", 1022, row.missing(0, 99));
        row.law(3);
        tally.due("missing(0, 99)", 6, row.missing(0, 99));
        tally.due("missing(0, 495)", 512, row.missing(0, 495));
        row.law(0);
        tally.due("missing(0, 891)", 512, row.missing(0, 891));
    }

    private static void missingBounds(Tally tally) {
        tally.begin("promises 21, 22: m 0 .. 999");
        ToldWays ways = Fed.landOf("places 7;way 0 1 99;way 1 2 99;way 2 3 99;way 3 4 99;way 4 5 99;way 5 6 4;person 0 0 0 first knows 0,1,2,3,4,5;");
        ways.law(2);
        tally.due("missing(0, 998)", 64, ways.missing(0, 998));
        tally.due("missing(0, 999)", 0, ways.missing(0, 999));
        for (int m : new int[] {-1, 1000, 1024, LEAST, MOST}) {
            tally.due("missing(0, " + m + ")", OUTSIDE, ways.missing(0, m));
            tally.due("lack(0, " + m + ")", OUTSIDE, ways.lack(0, m));
            tally.due("missing(1, " + m + ")", UNKNOWN, ways.missing(1, m));
            tally.due("lack(1, " + m + ")", UNKNOWN, ways.lack(1, m));
        }
        tally.due("told(6)", 0, ways.told(6));
        tally.due("lack(0, 998)", 1, ways.lack(0, 998));
        tally.due("fits()", 1, ways.fits());
        tally.due("lack(0, 0)", 2, ways.lack(0, 0));
        tally.due("fits()", 0, ways.fits());
        tally.due("lack(0, 999)", 3, ways.lack(0, 999));
    }

    private static void eightMissing(Tally tally) {
        tally.begin("promise 22: FULL (8)");
        ToldWays ways = Fed.landOf(row() + "person 0 0 0 first knows 0;");
        for (int i = 1; i <= 8; i++) {
            tally.due("lack(0, 99)", i, ways.lack(0, 99));
        }
        for (int i = 0; i < 3; i++) {
            tally.due("lack(0, 0)", FULL, ways.lack(0, 0));
        }
        tally.due("told(6)", 8, ways.told(6));
        tally.due("fits(): what was FULL does not count", 1, ways.fits());
        tally.due("log(0, 1, 1, 1): THE LOG is not FULL by that", 1, ways.log(0, 1, 1, 1));
    }

    private static void fitsOfAll(Tally tally) {
        tally.begin("promise 23: all such SETS are not empty");
        tally.due("fits() of nobody, without PLACES", 1, new ToldWays().fits());
        for (int wrong = 0; wrong < 8; wrong++) {
            ToldWays ways = Fed.landOf(row() + "person 0 0 0 first knows 0;person 1 0 0 first knows 1;");
            tally.due("fits() of nobody", 1, ways.fits());
            for (int i = 0; i < 8; i++) {
                ways.lack(i % 2, i == wrong ? 98 : 99);
                tally.due("fits() of " + (i + 1) + ", " + wrong + " cannot have been", i < wrong ? 1 : 0, ways.fits());
            }
            ways.clear();
            tally.due("fits() behind clear()", 1, ways.fits());
        }
        // Each for itself: that both were asked for the same is no harm, nor that one was missing twice.
        ToldWays ways = Fed.landOf(row() + "person 0 0 0 first knows 0,1;person 2 0 0 first knows 1;");
        ways.lack(0, 198);
        ways.lack(0, 99);
        ways.lack(1, 99);
        tally.due("fits()", 1, ways.fits());
    }

    // ---- promises 24 to 26

    private static void logBounds(Tally tally) {
        tally.begin("promise 24: UNKNOWN (PERSON, t, where it went), OUTSIDE (PIECES 0 .. 9)");
        ToldWays ways = Fed.landOf(row() + "person 0 0 0 first knows 0,1,2,3,4,5,6,7,8;");
        for (int wrong : new int[] {-1, 10, LEAST, MOST}) {
            tally.due("log(0, 9, " + wrong + ", 9)", OUTSIDE, ways.log(0, 9, wrong, 9));
            tally.due("log(0, " + wrong + ", 0, 0)", UNKNOWN, ways.log(0, wrong, 0, 0));
            tally.due("log(0, 9, 0, " + wrong + ")", UNKNOWN, ways.log(0, 9, 0, wrong));
            tally.due("log(" + wrong + ", 9, 0, 0)", UNKNOWN, ways.log(wrong, 9, 0, 0));
            tally.due("log(0, 9, " + wrong + ", 10)", UNKNOWN, ways.log(0, 9, wrong, 10));
        }
        tally.due("log(1, 9, 0, 0)", UNKNOWN, ways.log(1, 9, 0, 0));
        tally.due("told(5)", 0, ways.told(5));
        tally.due("log(0, 9, 0, 0)", 1, ways.log(0, 9, 0, 0));
        tally.due("log(0, 9, 9, 9)", 2, ways.log(0, 9, 9, 9));
        tally.due("judge()", NONE, ways.judge());
    }

    private static void logFull(Tally tally) {
        tally.begin("promise 24: FULL (30)");
        ToldWays ways = Fed.landOf(row() + "person 0 0 0 first knows 0;");
        for (int i = 1; i <= 30; i++) {
            tally.due("log(0, 1, 1, 1)", i, ways.log(0, 1, 1, 1));
        }
        for (int i = 0; i < 3; i++) {
            tally.due("log(0, 1, 9, 9)", FULL, ways.log(0, 1, 9, 9));
        }
        tally.due("log(0, 1, 10, 9)", OUTSIDE, ways.log(0, 1, 10, 9));
        tally.due("log(0, 1, 10, 10)", UNKNOWN, ways.log(0, 1, 10, 10));
        tally.due("told(5)", 30, ways.told(5));
        tally.due("judge(): what was FULL does not count", NONE, ways.judge());
        tally.due("lack(0, 99): it is not FULL by that", 1, ways.lack(0, 99));
    }

    private static void wrongIsTheFirst(Tally tally) {
        tally.begin("promise 26: WRONG: the first that cannot be; NONE");
        tally.due("judge() of no LOG", NONE, new ToldWays().judge());
        for (int wrong = 0; wrong < 30; wrong++) {
            ToldWays ways = Fed.landOf(row() + "person 0 0 0 first knows 0;person 1 0 0 silent knows 0,1;");
            for (int i = 0; i < 30; i++) {
                // What is WRONG stays so behind others; the last one is WRONG, too.
                ways.log(1, 2, 1, i == wrong || i == 29 ? 1 : 2);
            }
            tally.due("judge(), " + wrong + " cannot be", wrong, ways.judge());
        }
    }

    private static void judged(Tally tally, ToldWays ways, int t, int pieces, int went, boolean can) {
        ways.clear();
        ways.log(0, t, pieces, went);
        tally.due("judge() of log(0, " + t + ", " + pieces + ", " + went + ")", can ? NONE : 0, ways.judge());
    }

    private static void morePieces(Tally tally) {
        tally.begin("promise 26: more PIECES than its ROUTE has; any habit");
        ToldWays ways = Fed.landOf(row() + "person 0 9 0 silent knows 0,1,2,3,4,5,6,7,8;");
        for (int habit = 0; habit < 4; habit++) {
            ways.habit(0, habit);
            judged(tally, ways, 9, 9, 9, true);
            judged(tally, ways, 9, 8, 8, true);
            judged(tally, ways, 9, 8, 9, false);
            judged(tally, ways, 8, 8, 8, true);
            judged(tally, ways, 8, 9, 8, false);
            judged(tally, ways, 8, 9, 9, false);
            judged(tally, ways, 1, 1, 1, true);
            judged(tally, ways, 1, 2, 2, false);
        }
        int[] half = {0, 1, 1, 2, 2, 3, 3, 4, 4, 5};
        for (int pieces = 1; pieces <= 9; pieces++) {
            ways.law(1);
            judged(tally, ways, 9, pieces, 1, true);
            judged(tally, ways, 9, pieces, 2, false);
            ways.law(2);
            judged(tally, ways, 9, pieces, 0, true);
            judged(tally, ways, 9, pieces, pieces, false);
            ways.law(3);
            judged(tally, ways, 9, pieces, half[pieces], true);
            judged(tally, ways, 9, pieces, half[pieces] - 1, false);
            // By home again, too, it can not have said more than there is.
            ways.law(2);
            judged(tally, ways, pieces - 1, pieces, 0, false);
        }
    }

    private static void withNoneItStays(Tally tally) {
        tally.begin("promise 26: with none it stays");
        ToldWays ways = Fed.landOf(row() + "person 3 9 0 whole knows 2,3;");
        for (int law = 0; law < 4; law++) {
            ways.law(law);
            // With a ROUTE, without one, asked for where it is.
            for (int t : new int[] {4, 9, 3}) {
                judged(tally, ways, t, 0, 3, true);
                judged(tally, ways, t, 0, 4, false);
                judged(tally, ways, t, 0, 9, false);
            }
            for (int t : new int[] {9, 3}) {
                judged(tally, ways, t, 1, 3, false);
                judged(tally, ways, t, 1, 4, false);
            }
        }
    }

    private static void cleared(Tally tally) {
        tally.begin("promise 25: how many both had");
        tally.due("clear() without PLACES", 0, new ToldWays().clear());
        ToldWays ways = Fed.landOf(row() + "person 0 0 0 first knows 0;");
        for (int logged = 0; logged <= 30; logged += 15) {
            for (int missed = 0; missed <= 8; missed += 4) {
                for (int i = 0; i < logged; i++) {
                    ways.log(0, 1, 9, 9);
                }
                for (int i = 0; i < missed; i++) {
                    ways.lack(0, 0);
                }
                tally.due("judge()", logged == 0 ? NONE : 0, ways.judge());
                tally.due("fits()", missed == 0 ? 1 : 0, ways.fits());
                tally.due("clear()", logged + missed, ways.clear());
                tally.due("clear() again", 0, ways.clear());
                tally.due("judge()", NONE, ways.judge());
                tally.due("fits()", 1, ways.fits());
                tally.due("told(5)", 0, ways.told(5));
                tally.due("told(6)", 0, ways.told(6));
            }
        }
    }

    // ---- promises 27 and 28

    private static long after(long seed) {
        return (seed * 1103515245L + 12345L) % 2147483648L;
    }

    private static void seedBounds(Tally tally) {
        tally.begin("promise 28: v is 0 .. 2147483647; 0 at first");
        ToldWays ways = new ToldWays();
        for (int wrong : new int[] {-1, -2, -1000000001, LEAST}) {
            tally.due("seed(" + wrong + ")", OUTSIDE, ways.seed(wrong));
        }
        tally.due("seed(0)", 0, ways.seed(0));
        tally.due("seed(2147483647)", 0, ways.seed(MOST));
        tally.due("seed(-1)", OUTSIDE, ways.seed(-1));
        tally.due("seed(1)", MOST, ways.seed(1));
        tally.due("seed(0)", 1, ways.seed(0));
    }

    private static void seedLeftOver(Tally tally) {
        tally.begin("promise 27: each DRAW it becomes it times 1103515245 and 12345, left over by 2 to the 31");
        // Two DRAWS of one PLACE each; of 0 these are 12345 and 1406932606, of 2147483647 1043980748 and 145590565.
        int[][] due = {{0, 1406932606}, {MOST, (int) after(after(MOST))}, {1, (int) after(after(1))}, {1 << 30, (int) after(after(1 << 30))},
            {1043980748, (int) after(after(1043980748))}, {MOST - 1, (int) after(after(MOST - 1))}};
        for (int[] pair : due) {
            ToldWays ways = Fed.landOf("places 1;");
            ways.seed(pair[0]);
            tally.due("drift(1, 0)", 1, ways.drift(1, 0));
            int got = ways.seed(0);
            tally.due("THE SEED behind two DRAWS of " + pair[0], pair[1], got);
            tally.holds("it is not below 0", got >= 0);
        }
        // A whole life of DRAWS stays within 31 bits.
        ToldWays ways = Fed.landOf("places 1;");
        ways.seed(MOST);
        long seed = MOST;
        for (int i = 0; i < 200; i++) {
            for (int k = 0; k < 198; k++) {
                seed = after(seed);
            }
            ways.drift(99, i % 2);
        }
        tally.due("THE SEED behind 39600 DRAWS", seed, ways.seed(0));
    }

    private static void driftBounds(Tally tally) {
        tally.begin("promise 27: n strangers (1 .. 99); NOT: no PLACES");
        ToldWays none = new ToldWays();
        ToldWays ways = Fed.landOf("places 1;");
        none.seed(99);
        ways.seed(99);
        for (int wrong : new int[] {0, -1, 100, LEAST, MOST}) {
            tally.due("drift(" + wrong + ", 0)", OUTSIDE, ways.drift(wrong, 0));
            tally.due("without PLACES drift(" + wrong + ", 0)", OUTSIDE, none.drift(wrong, 0));
        }
        for (int wrong : new int[] {-1, 2, LEAST, MOST}) {
            tally.due("drift(99, " + wrong + ")", OUTSIDE, ways.drift(99, wrong));
            tally.due("without PLACES drift(99, " + wrong + ")", OUTSIDE, none.drift(99, wrong));
        }
        tally.due("without PLACES drift(1, 0)", NOT, none.drift(1, 0));
        tally.due("without PLACES drift(99, 1)", NOT, none.drift(99, 1));
        tally.due("what is refused draws nothing", 99, ways.seed(99));
        tally.due("what is refused draws nothing", 99, none.seed(99));
        tally.due("drift(1, 0)", 1, ways.drift(1, 0));
        tally.due("two DRAWS", after(after(99)), ways.seed(99));
        tally.due("drift(99, 0)", 99, ways.drift(99, 0));
        Fed.text(ways, " ");
        ways.land();
        tally.due("drift(1, 0) when THE LAND is gone", NOT, ways.drift(1, 0));
    }

    private static void driftAtOnce(Tally tally) {
        tally.begin("promise 27: (one who is there at once, too)");
        // Nobody leads: those come there who are there.
        for (int places = 1; places <= 10; places++) {
            long seed = 0;
            int come = 0;
            for (int i = 0; i < 99; i++) {
                seed = after(seed);
                long a = seed / 65536 % places;
                seed = after(seed);
                come += a == seed / 65536 % places ? 1 : 0;
            }
            ToldWays ways = Fed.landOf("places " + places + ";");
            tally.due("of " + places + " drift(99, 0)", come, ways.drift(99, 0));
            tally.due("THE SEED", seed, ways.seed(0));
            tally.due("of " + places + " drift(99, 1)", 0, ways.drift(99, 1));
        }
    }

    private static void driftOfOne(Tally tally) {
        tally.begin("promise 27: a DRAW of how many each time (also of one)");
        // Two PLACES, one PERSON at each, who leads to the other: the third DRAW of one who is not there at once is of one.
        String land = "places 2;way 0 1 7;person 0 0 0 whole knows 0;person 1 0 0 whole knows 0;";
        int met = 0;
        for (int start = 0; start < 60; start++) {
            long first = after(start * 1000003L), second = after(first);
            boolean there = first / 65536 % 2 == second / 65536 % 2;
            met += there ? 0 : 1;
            ToldWays ways = Fed.landOf(land);
            ways.seed(start * 1000003);
            tally.due("drift(1, 1) of SEED " + start * 1000003, there ? 0 : 7, ways.drift(1, 1));
            tally.due("THE SEED behind it", there ? second : after(second), ways.seed(0));
        }
        tally.holds("both were met", met > 0 && met < 60);
    }

    private static void driftLost(Tally tally) {
        tally.begin("promise 27: how many come there, minutes of those who come");
        // From 0 to 2 one is led to 1 and is lost there: 5 minutes that do not count; PERSON 0 leads but once.
        String land = "places 3;way 0 1 5;way 1 2 6;person 0 0 0 first knows 0,1;";
        int lost = 0;
        for (int start = 0; start < 60; start++) {
            long first = after(start * 1000003L), second = after(first);
            long a = first / 65536 % 3, t = second / 65536 % 3;
            boolean led = a == 0 && t != 0, comes = a == t || a == 0 && t == 1;
            lost += led && !comes ? 1 : 0;
            for (int what = 0; what < 2; what++) {
                ToldWays ways = Fed.landOf(land);
                ways.seed(start * 1000003);
                int due = what == 0 ? comes ? 1 : 0 : led && comes ? 5 : 0;
                tally.due("drift(1, " + what + ") of SEED " + start * 1000003, due, ways.drift(1, what));
                tally.due("THE SEED behind it", led ? after(second) : second, ways.seed(0));
            }
        }
        tally.holds("some were lost on their way", lost > 0);
    }

    // ---- promises 29 and 30

    private static void imagesThereAre(Tally tally) {
        tally.begin("promises 29, 30: IMAGES 0, 1");
        ToldWays ways = Fed.landOf("places 2;");
        ways.law(3);
        for (int wrong : new int[] {-1, 2, 3, LEAST, MOST}) {
            tally.due("keep(" + wrong + ")", UNKNOWN, ways.keep(wrong));
            tally.due("goBack(" + wrong + ")", UNKNOWN, ways.goBack(wrong));
        }
        for (int i = 0; i < 2; i++) {
            tally.due("goBack(" + i + ")", NOT, ways.goBack(i));
            tally.due("keep(" + i + ")", 1, ways.keep(i));
            tally.due("goBack(" + i + ")", 1, ways.goBack(i));
            tally.due("keep(" + i + ") again", 1, ways.keep(i));
            tally.due("goBack(" + i + ") again", 1, ways.goBack(i));
        }
        tally.due("told(4)", 3, ways.told(4));
    }

    private static void imagesKeepNoMore(Tally tally) {
        tally.begin("promise 30: IMAGES keep LAW, what PERSONS KNOW, habits, THE SEED; no more");
        ToldWays ways = Fed.landOf(row() + "person 0 9 0 silent knows 0;".repeat(5) + "person 0 9 0 first;");
        ways.keep(0);
        ways.law(3);
        ways.seed(MOST);
        for (int w = 0; w < 9; w++) {
            ways.learn(5, w, true);
        }
        ways.habit(5, 3);
        ways.keep(1);
        ways.log(0, 1, 1, 1);
        ways.lack(0, 99);
        Fed.text(ways, "?");
        tally.due("goBack(0)", 1, ways.goBack(0));
        tally.due("person(5, 4)", 0, ways.person(5, 4));
        tally.due("person(5, 3)", 1, ways.person(5, 3));
        tally.due("person(4, 4)", 1, ways.person(4, 4));
        tally.due("told(4)", 0, ways.told(4));
        tally.due("seed(7)", 0, ways.seed(7));
        tally.due("told(3)", 1, ways.told(3));
        tally.due("told(5)", 1, ways.told(5));
        tally.due("told(6)", 1, ways.told(6));
        tally.due("goBack(1)", 1, ways.goBack(1));
        tally.due("person(5, 4)", 511, ways.person(5, 4));
        tally.due("person(5, 3)", 3, ways.person(5, 3));
        tally.due("told(4)", 3, ways.told(4));
        tally.due("seed(7)", MOST, ways.seed(7));
        // An IMAGE is not what is so: what is learnt behind keep() and goBack() does not come into it.
        ways.learn(5, 0, false);
        ways.goBack(1);
        tally.due("person(5, 4)", 511, ways.person(5, 4));
        tally.due("clear(): both are as they were", 2, ways.clear());
        tally.due("land(): THE TEXT, too", -11, ways.land());
    }

    private static void imageNotKept(Tally tally) {
        tally.begin("promise 30: NOT: it was not kept");
        ToldWays ways = Fed.landOf("places 2;way 0 1 5;person 0 0 0 whole knows 0;");
        ways.keep(1);
        ways.law(2);
        ways.seed(5);
        ways.habit(0, 0);
        ways.learn(0, 0, false);
        tally.due("goBack(0)", NOT, ways.goBack(0));
        tally.due("told(4)", 2, ways.told(4));
        tally.due("person(0, 3)", 0, ways.person(0, 3));
        tally.due("person(0, 4)", 0, ways.person(0, 4));
        tally.due("seed(5)", 5, ways.seed(5));
        Fed.text(ways, "places 2;");
        ways.land();
        tally.due("goBack(1) behind land()", NOT, ways.goBack(1));
        ways.keep(0);
        tally.due("goBack(1) when 0 is kept", NOT, ways.goBack(1));
        tally.due("goBack(0)", 1, ways.goBack(0));
    }
}
