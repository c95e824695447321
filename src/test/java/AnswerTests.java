/** Promises 12 to 14: routes and answers. */
final class AnswerTests {
    private static final int NONE = -1, UNKNOWN = -1000000001, OUTSIDE = -1000000002;
    private static final int LEAST = Integer.MIN_VALUE, MOST = Integer.MAX_VALUE;

    /** A row of PLACES: 0 -3- 1 -4- 2 -5- 3 -6- 4; PLACE 5 is by itself. */
    private static final String ROW = "places 6;way 0 1 3;way 1 2 4;way 2 3 5;way 3 4 6;";

    private AnswerTests() {
    }

    static void run(Tally tally) {
        route(tally);
        routeOfLike(tally);
        saysByHabit(tally);
        saysByLaw(tally);
        saysErrand(tally);
        ownByLaw(tally);
        ownOfLike(tally);
        refusals(tally);
    }

    private static void all(Tally tally, ToldWays ways, int p, int a, int t, int... stops) {
        String call = "route(" + p + ", " + a + ", " + t + ", ";
        tally.due(call + "-1)", stops.length, ways.route(p, a, t, NONE));
        for (int i = 0; i < stops.length; i++) {
            tally.due(call + i + ")", stops[i], ways.route(p, a, t, i));
        }
        tally.due(call + stops.length + ")", NONE, ways.route(p, a, t, stops.length));
    }

    private static void route(Tally tally) {
        tally.begin("promise 12, route");
        ToldWays ways = Fed.landOf(ROW + "way 0 4 40;person 0 0 0 silent knows 0,1,2,3;person 5 0 0 silent knows 4,1;");
        all(tally, ways, 0, 0, 4, 1, 2, 3, 4);
        tally.due("route(0, 0, 4, -2)", 18, ways.route(0, 0, 4, -2));
        all(tally, ways, 0, 3, 1, 2, 1);
        tally.due("route(0, 3, 1, -2)", 9, ways.route(0, 3, 1, -2));
        all(tally, ways, 0, 2, 2);
        tally.due("route(0, 2, 2, -2)", 0, ways.route(0, 2, 2, -2));
        all(tally, ways, 1, 4, 0, 0);
        tally.due("route(1, 4, 0, -2)", 40, ways.route(1, 4, 0, -2));
        all(tally, ways, 0, 5, 5);
        for (int i : new int[] {-1, -2, -3, 0, 1}) {
            tally.due("without a ROUTE route(0, 0, 5, " + i + ")", NONE, ways.route(0, 0, 5, i));
            tally.due("without a ROUTE route(1, 0, 2, " + i + ")", NONE, ways.route(1, 0, 2, i));
        }
        for (int i : new int[] {-3, 4, 5, 10, LEAST, MOST}) {
            tally.due("route(0, 0, 4, " + i + ")", NONE, ways.route(0, 0, 4, i));
        }
    }

    private static void routeOfLike(Tally tally) {
        tally.begin("promise 12, of like routes");
        // 0 to 5 in 12 minutes: by 1 and 2 and 3 (3 each), by 4 (6 each): the fewer PIECES.
        ToldWays few = Fed.landOf("places 6;way 0 1 3;way 1 2 3;way 2 3 3;way 3 5 3;way 0 4 6;way 4 5 6;person 0 0 0 whole knows 0,1,2,3,4,5;");
        all(tally, few, 0, 0, 5, 4, 5);
        all(tally, few, 0, 5, 0, 4, 0);
        few.learn(0, 5, false);
        all(tally, few, 0, 0, 5, 1, 2, 3, 5);
        // The fewest minutes go ahead of the fewest PIECES.
        ToldWays fast = Fed.landOf("places 3;way 0 2 9;way 0 1 4;way 1 2 4;person 0 0 0 whole knows 0,1,2;");
        all(tally, fast, 0, 0, 2, 1, 2);
        // The lesser PLACE, told later; PIECE by PIECE from a on, so there and back are not the same.
        ToldWays like = Fed.landOf("places 6;way 0 4 1;way 4 1 1;way 1 5 1;way 0 3 1;way 3 2 1;way 2 5 1;person 0 0 0 whole knows 0,1,2,3,4,5;");
        all(tally, like, 0, 0, 5, 3, 2, 5);
        all(tally, like, 0, 5, 0, 1, 4, 0);
        ToldWays square = Fed.landOf("places 4;way 0 2 5;way 2 3 5;way 0 1 5;way 1 3 5;person 0 0 0 whole knows 0,1,2,3;");
        all(tally, square, 0, 0, 3, 1, 3);
        all(tally, square, 0, 3, 0, 1, 0);
        all(tally, square, 0, 1, 2, 0, 2);
        all(tally, square, 0, 2, 1, 0, 1);
        square.learn(0, 3, false);
        all(tally, square, 0, 0, 3, 2, 3);
    }

    private static void says(Tally tally, ToldWays ways, int p, int a, int t, int... due) {
        for (int what = 0; what < 5; what++) {
            tally.due("says(" + p + ", " + a + ", " + t + ", " + what + ")", due[what], ways.says(p, a, t, what));
        }
    }

    private static void saysByHabit(Tally tally) {
        tally.begin("promise 13, says by habit");
        ToldWays ways = Fed.landOf(ROW + "person 3 2 9 silent knows 0,1,2,3;");
        says(tally, ways, 0, 0, 4, 0, 0, 0, 0, 0);
        ways.habit(0, 1);
        says(tally, ways, 0, 0, 4, 1, 1, 3, 1, 3);
        ways.habit(0, 2);
        says(tally, ways, 0, 0, 4, 2, 2, 7, 2, 7);
        ways.habit(0, 3);
        says(tally, ways, 0, 0, 4, 4, 4, 18, 4, 18);
        says(tally, ways, 0, 4, 1, 3, 1, 15, 1, 15);
        for (int habit = 0; habit < 4; habit++) {
            ways.habit(0, habit);
            says(tally, ways, 0, 2, 2, 0, 2, 0, 2, 0);
            says(tally, ways, 0, 1, 5, 0, 1, 0, 1, 0);
        }
    }

    private static void saysErrand(Tally tally) {
        tally.begin("promise 13, says errand");
        ToldWays ways = Fed.landOf(ROW + "person 3 2 9 errand knows 0,1,2,3;");
        says(tally, ways, 0, 3, 0, 1, 2, 5, 2, 5);
        // It is the end of the ROUTE; at a; not on the ROUTE.
        says(tally, ways, 0, 0, 2, 2, 2, 7, 2, 7);
        says(tally, ways, 0, 2, 4, 0, 2, 0, 2, 0);
        says(tally, ways, 0, 0, 1, 0, 0, 0, 0, 0);
        says(tally, ways, 0, 4, 3, 0, 4, 0, 4, 0);
    }

    private static void saysByLaw(Tally tally) {
        tally.begin("promise 13, says by law");
        ToldWays ways = Fed.landOf(ROW + "person 3 2 9 whole knows 0,1,2,3;");
        ways.law(1);
        says(tally, ways, 0, 0, 4, 4, 4, 18, 1, 3);
        says(tally, ways, 0, 1, 2, 1, 2, 4, 2, 4);
        says(tally, ways, 0, 1, 1, 0, 1, 0, 1, 0);
        ways.law(2);
        says(tally, ways, 0, 0, 4, 4, 4, 18, 0, 36);
        says(tally, ways, 0, 4, 2, 2, 2, 11, 4, 22);
        says(tally, ways, 0, 4, 5, 0, 4, 0, 4, 0);
        ways.law(3);
        says(tally, ways, 0, 0, 1, 1, 1, 3, 1, 3);
        says(tally, ways, 0, 0, 2, 2, 2, 7, 1, 3);
        says(tally, ways, 0, 0, 3, 3, 3, 12, 2, 7);
        says(tally, ways, 0, 0, 4, 4, 4, 18, 2, 7);
        says(tally, ways, 0, 4, 0, 4, 0, 18, 2, 11);
        says(tally, ways, 0, 0, 5, 0, 0, 0, 0, 0);
    }

    private static void own(Tally tally, ToldWays ways, int p, int a, int t, int pieces, int gains) {
        tally.due("own(" + p + ", " + a + ", " + t + ", 0)", pieces, ways.own(p, a, t, 0));
        tally.due("own(" + p + ", " + a + ", " + t + ", 1)", gains, ways.own(p, a, t, 1));
    }

    private static void ownByLaw(Tally tally) {
        tally.begin("promise 14, own by law");
        ToldWays ways = Fed.landOf(ROW + "person 5 2 30 silent knows 0,1,2,3;");
        own(tally, ways, 0, 0, 4, 2, 23);
        own(tally, ways, 0, 4, 0, 2, 19);
        own(tally, ways, 0, 0, 1, 0, 0);
        own(tally, ways, 0, 2, 4, 0, 0);
        own(tally, ways, 0, 3, 3, 0, 0);
        own(tally, ways, 0, 0, 5, 0, 0);
        ways.law(1);
        own(tally, ways, 0, 0, 4, 0, 0);
        own(tally, ways, 0, 1, 4, 1, 26);
        own(tally, ways, 0, 3, 0, 1, 25);
        own(tally, ways, 0, 2, 0, 0, 0);
        ways.law(2);
        own(tally, ways, 0, 0, 4, 2, 16);
        own(tally, ways, 0, 4, 1, 2, 8);
        own(tally, ways, 0, 2, 4, 0, 0);
        ways.law(3);
        // At the ERRAND behind two PIECES, when three are said; of these two there is one less to three.
        own(tally, ways, 0, 0, 4, 3, 23);
        own(tally, ways, 0, 0, 2, 0, 0);
        own(tally, ways, 0, 0, 3, 3, 23);
        own(tally, ways, 0, 1, 4, 1, 26);
        own(tally, ways, 0, 4, 0, 3, 19);
    }

    private static void ownOfLike(Tally tally) {
        tally.begin("promise 14, own of like ones");
        // 7 minutes to the ERRAND: worth as much is as good as to stay.
        ToldWays like = Fed.landOf(ROW + "person 0 2 7 whole knows 0,1,2,3;person 0 2 8 silent knows 0,1,2,3;person 0 2 14 first knows 0,1,2,3;");
        own(tally, like, 0, 0, 4, 0, 0);
        own(tally, like, 1, 0, 4, 2, 1);
        own(tally, like, 2, 0, 4, 2, 7);
        like.law(2);
        own(tally, like, 2, 0, 4, 0, 0);
        // Of the ways to be worth it the nearest, also if more could be said.
        like.law(1);
        own(tally, like, 1, 1, 4, 1, 4);
        own(tally, like, 1, 3, 0, 1, 3);
        // At home again it is not at its ERRAND, where it was ahead.
        ToldWays home = Fed.landOf(ROW + "person 0 0 99 whole knows 0,1,2,3;");
        for (int law = 0; law < 4; law++) {
            home.law(law);
            own(tally, home, 0, 0, 4, 0, 0);
        }
    }

    private static void refusals(Tally tally) {
        tally.begin("promises 12 to 14, refusals");
        ToldWays ways = Fed.landOf(ROW + "person 0 2 7 whole knows 0,1,2,3;");
        for (int x : new int[] {-1, 6, 10, LEAST, MOST}) {
            tally.due("route", UNKNOWN, ways.route(x, 0, 1, 0));
            tally.due("route", UNKNOWN, ways.route(0, x, 1, 0));
            tally.due("route", UNKNOWN, ways.route(0, 0, x, -5));
            tally.due("says", UNKNOWN, ways.says(x, 0, 1, 0));
            tally.due("says", UNKNOWN, ways.says(0, x, 1, 9));
            tally.due("says", UNKNOWN, ways.says(0, 0, x, -1));
            tally.due("own", UNKNOWN, ways.own(x, 0, 1, 0));
            tally.due("own", UNKNOWN, ways.own(0, x, 1, 9));
            tally.due("own", UNKNOWN, ways.own(0, 0, x, -1));
        }
        tally.due("route of PERSON 1", UNKNOWN, ways.route(1, 0, 1, 0));
        tally.due("says of PERSON 1", UNKNOWN, ways.says(1, 0, 1, 5));
        tally.due("own of PERSON 1", UNKNOWN, ways.own(1, 0, 1, 2));
        for (int what : new int[] {-1, 5, LEAST, MOST}) {
            tally.due("says", OUTSIDE, ways.says(0, 0, 1, what));
            tally.due("own", OUTSIDE, ways.own(0, 0, 1, what));
        }
        tally.due("own", OUTSIDE, ways.own(0, 0, 1, 2));
    }
}
