/** Promises 27 to 30: draws and images. */
final class ImageTests {
    private static final int UNKNOWN = -1000000001, OUTSIDE = -1000000002, NOT = -1000000003;
    private static final int LEAST = Integer.MIN_VALUE, MOST = Integer.MAX_VALUE;

    private ImageTests() {
    }

    static void run(Tally tally) {
        drift(tally);
        driftRefused(tally);
        seed(tally);
        keep(tally);
        goBack(tally);
    }

    /** The next SEED. */
    private static long after(long seed) {
        return (seed * 1103515245L + 12345L) % 2147483648L;
    }

    private static int drawn(long seed, int n) {
        return (int) (seed / 65536 % n);
    }

    private static void drift(Tally tally) {
        tally.begin("promise 27, drift");
        // One PLACE: all are there at once, after two DRAWS each.
        ToldWays alone = Fed.landOf("places 1;person 0 0 9 whole;");
        tally.due("drift(99, 0)", 99, alone.drift(99, 0));
        long seed = 0;
        for (int i = 0; i < 198; i++) {
            seed = after(seed);
        }
        tally.due("seed(0)", seed, alone.seed(0));
        tally.due("drift(99, 1)", 0, alone.drift(99, 1));
        // Two PLACES, one PERSON at 0: from 0 to 1 there is one to be drawn, from 1 to 0 nobody.
        ToldWays two = Fed.landOf("places 2;way 0 1 7;person 0 0 9 whole knows 0;");
        seed = 0;
        int come = 0, minutes = 0;
        for (int i = 0; i < 50; i++) {
            seed = after(seed);
            int a = drawn(seed, 2);
            seed = after(seed);
            int t = drawn(seed, 2);
            if (a == 0 && t == 1) {
                seed = after(seed);
                minutes += 7;
            }
            come += a == 1 && t == 0 ? 0 : 1;
        }
        tally.due("drift(50, 0)", come, two.drift(50, 0));
        tally.due("seed(0)", seed, two.seed(0));
        tally.due("drift(50, 1)", minutes, two.drift(50, 1));
        tally.due("seed(MOST)", seed, two.seed(MOST));
        tally.due("drift(1, 0)", drawn(after(MOST), 2) == 1 && drawn(after(after(MOST)), 2) == 0 ? 0 : 1, two.drift(1, 0));
        three(tally);
    }

    /** Three PERSONS at 0, to 1: in 1 minute, in 2, and to 2, where nobody is. */
    private static void three(Tally tally) {
        String land = "places 3;way 0 1 1;way 0 2 1;way 2 1 1;person 0 0 9 whole knows 0;person 0 0 9 whole knows 1,2;person 0 0 9 first knows 1,2;";
        for (int start = 0; start < 40; start++) {
            ToldWays ways = Fed.landOf(land);
            ways.seed(start * 7919);
            long seed = after(start * 7919);
            int a = drawn(seed, 3);
            seed = after(seed);
            int t = drawn(seed, 3), minutes = 0;
            boolean comes = a == t;
            if (a == 0 && t == 1) {
                seed = after(seed);
                int who = drawn(seed, 3);
                comes = who != 2;
                minutes = who == 2 ? 0 : who + 1;
            } else if (a == 0 && t == 2) {
                // PERSON 0 has no ROUTE to 2; both others go there at once.
                seed = after(seed);
                comes = true;
                minutes = 1;
            }
            ways.keep(0);
            ways.seed(start * 7919);
            tally.due("drift(1, 0) of SEED " + start * 7919, comes ? 1 : 0, ways.drift(1, 0));
            ways.goBack(0);
            tally.due("drift(1, 1) of SEED " + start * 7919, minutes, ways.drift(1, 1));
            tally.due("seed(0) behind SEED " + start * 7919, seed, ways.seed(0));
        }
    }

    private static void driftRefused(Tally tally) {
        tally.begin("promise 27, refusals");
        ToldWays none = new ToldWays();
        ToldWays ways = Fed.landOf("places 2;");
        for (int x : new int[] {0, -1, 100, LEAST, MOST}) {
            tally.due("drift(" + x + ", 0)", OUTSIDE, ways.drift(x, 0));
            tally.due("without PLACES drift(" + x + ", 0)", OUTSIDE, none.drift(x, 0));
        }
        for (int what : new int[] {-1, 2, LEAST, MOST}) {
            tally.due("drift(1, " + what + ")", OUTSIDE, ways.drift(1, what));
            tally.due("without PLACES drift(1, " + what + ")", OUTSIDE, none.drift(1, what));
        }
        tally.due("without PLACES drift(99, 1)", NOT, none.drift(99, 1));
        tally.due("nothing was drawn: seed(0)", 0, none.seed(0));
        tally.due("nothing was drawn: seed(0)", 0, ways.seed(0));
    }

    private static void seed(Tally tally) {
        tally.begin("promise 28, seed");
        ToldWays ways = new ToldWays();
        tally.due("seed(MOST)", 0, ways.seed(MOST));
        tally.due("seed(-1)", OUTSIDE, ways.seed(-1));
        tally.due("seed(LEAST)", OUTSIDE, ways.seed(LEAST));
        tally.due("seed(0)", MOST, ways.seed(0));
        tally.due("seed(5)", 0, ways.seed(5));
        ways.land();
        tally.due("seed(6) behind land()", 5, ways.seed(6));
    }

    private static final String LAND = "places 3;way 0 1 1;way 1 2 1;person 0 0 9 whole knows 0;person 1 0 9 silent knows 1;";

    private static void state(Tally tally, ToldWays ways, int... due) {
        tally.due("told(4)", due[0], ways.told(4));
        int seed = ways.seed(0);
        ways.seed(seed);
        tally.due("THE SEED", due[1], seed);
        tally.due("person(0, 3)", due[2], ways.person(0, 3));
        tally.due("person(0, 4)", due[3], ways.person(0, 4));
        tally.due("person(1, 3)", due[4], ways.person(1, 3));
        tally.due("person(1, 4)", due[5], ways.person(1, 4));
    }

    private static void change(ToldWays ways, int law, int seed, int habit, boolean knows) {
        ways.law(law);
        ways.seed(seed);
        ways.habit(0, habit);
        ways.habit(1, habit);
        ways.learn(0, 1, knows);
        ways.learn(1, 1, knows);
    }

    private static void keep(Tally tally) {
        tally.begin("promise 29, keep");
        ToldWays ways = Fed.landOf(LAND);
        for (int i : new int[] {-1, 2, LEAST, MOST}) {
            tally.due("keep(" + i + ")", UNKNOWN, ways.keep(i));
        }
        tally.due("keep(0)", 1, ways.keep(0));
        change(ways, 2, 22, 2, true);
        tally.due("keep(1)", 1, ways.keep(1));
        change(ways, 3, 33, 1, false);
        state(tally, ways, 3, 33, 1, 1, 1, 0);
        ways.goBack(0);
        state(tally, ways, 0, 0, 3, 1, 0, 2);
        ways.goBack(1);
        state(tally, ways, 2, 22, 2, 3, 2, 2);
        change(ways, 3, 33, 1, false);
        tally.due("keep(0) again", 1, ways.keep(0));
        ways.goBack(1);
        state(tally, ways, 2, 22, 2, 3, 2, 2);
        ways.goBack(0);
        state(tally, ways, 3, 33, 1, 1, 1, 0);
        tally.due("keep(1) without PLACES", 1, new ToldWays().keep(1));
    }

    private static void goBack(Tally tally) {
        tally.begin("promise 30, goBack");
        ToldWays ways = Fed.landOf(LAND);
        for (int i : new int[] {-1, 2, LEAST, MOST}) {
            tally.due("goBack(" + i + ")", UNKNOWN, ways.goBack(i));
        }
        tally.due("goBack(0)", NOT, ways.goBack(0));
        ways.keep(1);
        tally.due("goBack(0)", NOT, ways.goBack(0));
        change(ways, 2, 22, 2, true);
        ways.log(0, 1, 1, 1);
        ways.lack(0, 1);
        Fed.text(ways, "pla");
        tally.due("goBack(1)", 1, ways.goBack(1));
        state(tally, ways, 0, 0, 3, 1, 0, 2);
        tally.due("THE LOG stays", 1, ways.told(5));
        tally.due("who is MISSING stays", 1, ways.told(6));
        tally.due("THE TEXT stays", 3, ways.told(3));
        change(ways, 2, 22, 2, true);
        tally.due("goBack(1) again", 1, ways.goBack(1));
        state(tally, ways, 0, 0, 3, 1, 0, 2);
        tally.due("soonest(0, 2) goes back, too", -1, ways.soonest(0, 2));
        ways.land();
        ToldWays none = new ToldWays();
        none.law(3);
        none.keep(0);
        none.law(1);
        none.seed(9);
        tally.due("goBack(0) without PLACES", 1, none.goBack(0));
        tally.due("told(4)", 3, none.told(4));
        tally.due("seed(0)", 0, none.seed(0));
    }
}
