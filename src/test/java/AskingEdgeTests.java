/** The sentences on routes, answers and strangers (promises 12 to 20) that name an edge, each with a test of its own. */
final class AskingEdgeTests {
    private static final int NONE = -1, UNKNOWN = -1000000001, OUTSIDE = -1000000002;
    private static final int LEAST = Integer.MIN_VALUE, MOST = Integer.MAX_VALUE;

    /** Minutes from 0 to each PLACE of the row. */
    private static final int[] CLOCK = {0, 1, 3, 6, 10, 15, 21, 28, 36, 45};

    private AskingEdgeTests() {
    }

    static void run(Tally tally) {
        routeOfNothing(tally);
        routeNotSoMany(tally);
        longestRoute(tally);
        saysNothing(tally);
        saysErrand(tally);
        halfUp(tally);
        ownOfNothing(tally);
        ownOfLikeOnes(tally);
        ownAtTheErrand(tally);
        ledAtOnce(tally);
        lostAtOnce(tally);
        ledBySix(tally);
        ledByOwnOfSix(tally);
        soonestIsFar(tally);
        guidesOfLike(tally);
        lotAtOnce(tally);
        lotOfSix(tally);
        toSayNone(tally);
        toSayOfLike(tally);
        learntOfNone(tally);
        learntBounds(tally);
        learntOfThree(tally);
        lastPlaces(tally);
        personsOfBefore(tally);
    }

    /** Ten PLACES in a row, 1 minute for the first WAY, 9 for the last. */
    private static String row() {
        StringBuilder text = new StringBuilder("places 10;");
        for (int a = 0; a < 9; a++) {
            text.append("way " + a + " " + (a + 1) + " " + (a + 1) + ";");
        }
        return text.toString();
    }

    /**
     * Ten PLACES in a ring, WAY 9 from 0 to 9; who wants to 9 is led to 8 the long way by those at 0, and by those at 8 the
     * long way back to 0; by PERSON 5 through 0 to 9.
     */
    private static String ring(int minutes, String habit, String last, int worth) {
        StringBuilder text = new StringBuilder("places 10;");
        for (int a = 0; a < 9; a++) {
            text.append("way " + a + " " + (a + 1) + " " + minutes + ";");
        }
        text.append("way 0 9 " + minutes + ";");
        for (int p = 0; p < 6; p++) {
            String known = p % 2 == 0 ? "0,1,2,3,4,5,6,7,8" : "0,1,2,3,4,5,6,7,9";
            text.append("person" + (p % 2 == 0 ? "0 8 " : "8 0 ") + worth + (p == 5 ? last : habit) + " knows" + known + ";");
        }
        return text.toString();
    }

    // ---- promise 12

    private static void routeOfNothing(Tally tally) {
        tally.begin("promise 12: no ROUTE, and one of no PIECES");
        ToldWays ways = Fed.landOf(row() + "person 3 0 0 whole;");
        for (int a = 0; a < 10; a++) {
            for (int t = 0; t < 10; t++) {
                tally.due("of one who KNOWS nothing route(0, " + a + ", " + t + ", -1)", a == t ? 0 : NONE, ways.route(0, a, t, NONE));
                tally.due("of one who KNOWS nothing route(0, " + a + ", " + t + ", -2)", a == t ? 0 : NONE, ways.route(0, a, t, -2));
                tally.due("of one who KNOWS nothing route(0, " + a + ", " + t + ", 0)", NONE, ways.route(0, a, t, 0));
            }
        }
        // The last WAY alone is not known.
        for (int w = 0; w < 8; w++) {
            ways.learn(0, w, true);
        }
        tally.due("route(0, 0, 9, -1)", NONE, ways.route(0, 0, 9, NONE));
        tally.due("route(0, 0, 8, -1)", 8, ways.route(0, 0, 8, NONE));
        tally.due("route(0, 9, 9, -1)", 0, ways.route(0, 9, 9, NONE));
    }

    private static void routeNotSoMany(Tally tally) {
        tally.begin("promise 12: not so many");
        ToldWays ways = Fed.landOf(row() + "person 3 0 0 whole knows 0,1,2,3,4,5,6,7,8;");
        for (int t = 1; t < 10; t++) {
            tally.due("route(0, 0, " + t + ", " + (t - 1) + ")", t, ways.route(0, 0, t, t - 1));
            tally.due("route(0, 0, " + t + ", " + t + ")", NONE, ways.route(0, 0, t, t));
        }
        for (int i : new int[] {-3, -4, 9, 10, 16, 32, LEAST, MOST}) {
            tally.due("route(0, 0, 9, " + i + ")", NONE, ways.route(0, 0, 9, i));
            tally.due("route(0, 5, 5, " + i + ")", NONE, ways.route(0, 5, 5, i));
        }
    }

    private static void longestRoute(Tally tally) {
        tally.begin("promise 12: a ROUTE through all PLACES");
        // The short WAY takes 99, the long one, of nine PIECES, 9 of 11 each: the short one. Of 10 each: the long one.
        for (int minutes : new int[] {11, 10}) {
            StringBuilder text = new StringBuilder("places 10;way 0 9 99;");
            for (int a = 0; a < 9; a++) {
                text.append("way " + a + " " + (a + 1) + " " + minutes + ";");
            }
            ToldWays ways = Fed.landOf(text + "person 0 0 0 whole knows 0,1,2,3,4,5,6,7,8,9;");
            tally.due("route(0, 0, 9, -1) of " + minutes, minutes == 11 ? 1 : 9, ways.route(0, 0, 9, NONE));
            tally.due("route(0, 0, 9, -2) of " + minutes, minutes == 11 ? 99 : 90, ways.route(0, 0, 9, -2));
            tally.due("route(0, 9, 0, 0) of " + minutes, minutes == 11 ? 0 : 8, ways.route(0, 9, 0, 0));
        }
        // Seventeen minutes less of the long one do not weigh as a PIECE, one minute does.
        ToldWays one = Fed.landOf("places 5;way 0 4 8;way 0 1 1;way 1 2 2;way 2 3 2;way 3 4 2;person 0 0 0 whole knows 0,1,2,3,4;");
        tally.due("route(0, 0, 4, -1)", 4, one.route(0, 0, 4, NONE));
        ToldWays like = Fed.landOf("places 5;way 0 4 8;way 0 1 2;way 1 2 2;way 2 3 2;way 3 4 2;person 0 0 0 whole knows 0,1,2,3,4;");
        tally.due("route(0, 0, 4, -1)", 1, like.route(0, 0, 4, NONE));
    }

    // ---- promise 13

    private static void says(Tally tally, ToldWays ways, int a, int t, int... due) {
        for (int what = 0; what < 5; what++) {
            tally.due("says(0, " + a + ", " + t + ", " + what + ")", due[what], ways.says(0, a, t, what));
        }
    }

    private static void saysNothing(Tally tally) {
        tally.begin("promise 13: 0, a, 0, a, 0, if it SAYS none");
        ToldWays ways = Fed.landOf(row() + "person 3 5 0 whole knows 0,1,2,3,4,5,6,7;");
        for (int law = 0; law < 4; law++) {
            ways.law(law);
            for (int habit = 0; habit < 4; habit++) {
                ways.habit(0, habit);
                // At t; without a ROUTE, there and back; at t, to which it has no ROUTE from elsewhere.
                says(tally, ways, 7, 7, 0, 7, 0, 7, 0);
                says(tally, ways, 4, 9, 0, 4, 0, 4, 0);
                says(tally, ways, 9, 4, 0, 9, 0, 9, 0);
                says(tally, ways, 9, 9, 0, 9, 0, 9, 0);
            }
            ways.habit(0, 0);
            says(tally, ways, 4, 6, 0, 4, 0, 4, 0);
        }
    }

    private static void saysErrand(Tally tally) {
        tally.begin("promise 13: as far as its ERRAND, if that lies on the ROUTE (but not at a), else none");
        ToldWays ways = Fed.landOf(row() + "person 3 5 0 errand knows 0,1,2,3,4,5,6,7,8;");
        says(tally, ways, 4, 9, 1, 5, 5, 5, 5);
        says(tally, ways, 0, 5, 5, 5, 15, 5, 15);
        says(tally, ways, 5, 9, 0, 5, 0, 5, 0);
        says(tally, ways, 5, 4, 0, 5, 0, 5, 0);
        says(tally, ways, 6, 9, 0, 6, 0, 6, 0);
        says(tally, ways, 0, 4, 0, 0, 0, 0, 0);
        says(tally, ways, 9, 5, 4, 5, 30, 5, 30);
        says(tally, ways, 9, 6, 0, 9, 0, 9, 0);
        // It must have a ROUTE to t: that it has one to its ERRAND is not enough.
        ways.learn(0, 8, false);
        says(tally, ways, 0, 9, 0, 0, 0, 0, 0);
        says(tally, ways, 0, 8, 5, 5, 15, 5, 15);
    }

    private static void halfUp(Tally tally) {
        tally.begin("promise 13: by LAW 1 one PIECE, by LAW 2 home again, by LAW 3 half of the PIECES, up");
        ToldWays ways = Fed.landOf(row() + "person 3 5 0 whole knows 0,1,2,3,4,5,6,7,8;");
        int[] half = {0, 1, 1, 2, 2, 3, 3, 4, 4, 5};
        for (int t = 1; t < 10; t++) {
            ways.law(0);
            says(tally, ways, 0, t, t, t, CLOCK[t], t, CLOCK[t]);
            ways.law(1);
            says(tally, ways, 0, t, t, t, CLOCK[t], 1, 1);
            ways.law(2);
            says(tally, ways, 0, t, t, t, CLOCK[t], 0, 2 * CLOCK[t]);
            ways.law(3);
            says(tally, ways, 0, t, t, t, CLOCK[t], half[t], CLOCK[half[t]]);
        }
        // Half of what is SAID, not of the ROUTE.
        ways.habit(0, 2);
        says(tally, ways, 0, 9, 5, 5, 15, 3, 6);
        ways.habit(0, 1);
        says(tally, ways, 0, 9, 1, 1, 1, 1, 1);
    }

    // ---- promise 14

    private static void own(Tally tally, ToldWays ways, int p, int a, int t, int pieces, int gains) {
        tally.due("own(" + p + ", " + a + ", " + t + ", 0)", pieces, ways.own(p, a, t, 0));
        tally.due("own(" + p + ", " + a + ", " + t + ", 1)", gains, ways.own(p, a, t, 1));
    }

    private static void ownOfNothing(Tally tally) {
        tally.begin("promise 14: (Without a ROUTE: 0.)");
        ToldWays ways = Fed.landOf(row() + "person 3 5 99 whole knows 0,1,2,3,4,5,6,7;");
        for (int law = 0; law < 4; law++) {
            ways.law(law);
            own(tally, ways, 0, 4, 9, 0, 0);
            own(tally, ways, 0, 9, 5, 0, 0);
            own(tally, ways, 0, 4, 4, 0, 0);
            own(tally, ways, 0, 9, 9, 0, 0);
            // The ERRAND is not on the ROUTE.
            own(tally, ways, 0, 4, 0, 0, 0);
        }
    }

    private static void ownOfLikeOnes(Tally tally) {
        tally.begin("promise 14: of like ones the fewest PIECES");
        String land = "places 3;way 0 1 98;way 1 2 1;person 0 1 97 whole knows 0,1;person 0 1 98 whole knows 0,1;person 0 1 99 whole knows 0,1;";
        ToldWays ways = Fed.landOf(land + "person 0 2 99 silent knows 0,1;person 0 1 0 whole knows 0,1;person 1 2 1 whole knows 1;");
        own(tally, ways, 0, 0, 2, 0, 0);
        own(tally, ways, 1, 0, 2, 0, 0);
        own(tally, ways, 2, 0, 2, 1, 1);
        own(tally, ways, 2, 0, 1, 1, 1);
        own(tally, ways, 3, 0, 2, 0, 0);
        own(tally, ways, 4, 0, 2, 0, 0);
        own(tally, ways, 5, 1, 2, 0, 0);
        // By LAW 1 all that is more than nothing walks the same: one PIECE is the fewest.
        ways.law(1);
        own(tally, ways, 2, 0, 2, 1, 1);
        own(tally, ways, 3, 0, 2, 0, 0);
        // By LAW 3 one and two PIECES walk the same.
        ways.law(3);
        own(tally, ways, 2, 0, 2, 1, 1);
        own(tally, ways, 3, 0, 2, 0, 0);
        // By LAW 2 it walks twice as many.
        ways.law(2);
        own(tally, ways, 2, 0, 2, 0, 0);
        ToldWays twice = Fed.landOf("places 2;way 0 1 49;person 0 1 98 whole knows 0;person 0 1 99 whole knows 0;");
        twice.law(2);
        own(tally, twice, 0, 0, 1, 0, 0);
        own(tally, twice, 1, 0, 1, 1, 1);
    }

    private static void ownAtTheErrand(Tally tally) {
        tally.begin("promise 14: (and is not at it ahead)");
        ToldWays ways = Fed.landOf(row() + "person 3 5 99 whole knows 0,1,2,3,4,5,6,7,8;");
        int[] half = {0, 1, 3, 5};
        for (int law = 0; law < 4; law++) {
            ways.law(law);
            own(tally, ways, 0, 5, 9, 0, 0);
            own(tally, ways, 0, 5, 0, 0, 0);
            own(tally, ways, 0, 5, 5, 0, 0);
            own(tally, ways, 0, 4, 9, 1, law == 2 ? 89 : 94);
        }
        ways.law(3);
        // To be half of the way at the ERRAND it says 1, 3, 5 PIECES of as many and more.
        for (int away = 1; away <= 3; away++) {
            int minutes = CLOCK[5] - CLOCK[5 - away];
            own(tally, ways, 0, 5 - away, 9, half[away], 99 - minutes);
            own(tally, ways, 0, 5 - away, 5 - away + half[away], half[away], 99 - minutes);
            if (away > 1) {
                own(tally, ways, 0, 5 - away, 5 - away + half[away] - 1, 0, 0);
            }
        }
    }

    // ---- promise 15

    private static void led(Tally tally, ToldWays ways, int a, int t, boolean own, int... due) {
        for (int what = 0; what < 4; what++) {
            tally.due("led(" + a + ", " + t + ", " + own + ", " + what + ")", due[what], ways.led(a, t, own, what));
        }
    }

    private static void ledAtOnce(Tally tally) {
        tally.begin("promise 15: till it is at t (it is at once)");
        ToldWays ways = Fed.landOf(ring(99, "whole", "whole", 99));
        for (int a = 0; a < 10; a++) {
            led(tally, ways, a, a, false, 0, a, 0, 0);
            led(tally, ways, a, a, true, 0, a, 0, 0);
        }
        led(tally, Fed.landOf("places 1;"), 0, 0, false, 0, 0, 0, 0);
    }

    private static void lostAtOnce(Tally tally) {
        tally.begin("promise 15: LOST (nobody there SAYS anything more)");
        // Nobody there; only silent ones there; those who have no ROUTE.
        ToldWays nobody = Fed.landOf("places 2;way 0 1 5;");
        led(tally, nobody, 0, 1, false, 0, 0, 1, 0);
        led(tally, nobody, 0, 1, true, 0, 0, 1, 0);
        ToldWays ways = Fed.landOf("places 3;way 0 1 5;way 1 2 5;person 0 1 99 silent knows 0,1;person 0 1 99 whole knows 0;person 1 1 99 silent knows 1;");
        led(tally, ways, 0, 2, false, 0, 0, 1, 0);
        led(tally, ways, 0, 2, true, 5, 1, 1, 1);
        led(tally, ways, 0, 1, false, 5, 1, 0, 1);
        led(tally, ways, 2, 0, false, 0, 2, 1, 0);
        led(tally, ways, 1, 2, true, 0, 1, 1, 0);
    }

    private static void ledBySix(Tally tally) {
        tally.begin("promise 15: each once at most in all");
        ToldWays ways = Fed.landOf(ring(99, "errand", "whole", 0));
        led(tally, ways, 0, 9, false, 5 * 792 + 891, 9, 0, 6);
        led(tally, ways, 8, 9, false, 4 * 792 + 891, 9, 0, 5);
        led(tally, ways, 4, 9, false, 0, 4, 1, 0);
        ways.habit(5, 2);
        led(tally, ways, 0, 9, false, 6 * 792, 0, 1, 6);
        led(tally, ways, 8, 9, false, 6 * 792, 8, 1, 6);
        ways.habit(4, 0);
        led(tally, ways, 0, 9, false, 4 * 792, 0, 1, 4);
        led(tally, ways, 8, 9, false, 5 * 792, 0, 1, 5);
        // Once in each asking: the same again.
        led(tally, ways, 8, 9, false, 5 * 792, 0, 1, 5);
    }

    private static void ledByOwnOfSix(Tally tally) {
        tally.begin("promise 15: LED BY OWN, each once at most in all, habits left aside");
        ToldWays ways = Fed.landOf(ring(1, "silent", "silent", 9));
        led(tally, ways, 0, 9, true, 6 * 8, 0, 1, 6);
        led(tally, ways, 8, 9, true, 6 * 8, 8, 1, 6);
        led(tally, ways, 0, 9, false, 0, 0, 1, 0);
        led(tally, ways, 0, 8, true, 8, 8, 0, 1);
        led(tally, ways, 0, 7, true, 0, 0, 1, 0);
        // Eight minutes for eight.
        ToldWays like = Fed.landOf(ring(1, "whole", "whole", 8));
        led(tally, like, 0, 9, true, 0, 0, 1, 0);
        led(tally, like, 0, 9, false, 9, 9, 0, 1);
    }

    // ---- promises 16 and 17

    private static void soonestIsFar(Tally tally) {
        tally.begin("promise 16: SOONEST; NONE");
        ToldWays ways = Fed.landOf(ring(99, "errand", "whole", 0));
        tally.due("soonest(0, 9), more than 999", 1683, ways.soonest(0, 9));
        tally.due("soonest(8, 9)", 891, ways.soonest(8, 9));
        tally.due("soonest(9, 9)", 0, ways.soonest(9, 9));
        tally.due("soonest(4, 9), where nobody is", NONE, ways.soonest(4, 9));
        tally.due("soonest(4, 4), where nobody is", 0, ways.soonest(4, 4));
        ways.habit(5, 2);
        tally.due("soonest(0, 9), where six lead and nobody comes there", NONE, ways.soonest(0, 9));
        tally.due("soonest(8, 9)", NONE, ways.soonest(8, 9));
        tally.due("soonest(0, 0)", 0, Fed.landOf("places 1;").soonest(0, 0));
        tally.due("soonest(0, 1) without WAYS", NONE, Fed.landOf("places 2;").soonest(0, 1));
    }

    private static void guide(Tally tally, ToldWays ways, int a, int t, int... due) {
        tally.due("guide(" + a + ", " + t + ", -1)", due.length, ways.guide(a, t, NONE));
        for (int i = 0; i < due.length; i++) {
            tally.due("guide(" + a + ", " + t + ", " + i + ")", due[i], ways.guide(a, t, i));
        }
        for (int i : new int[] {-2, LEAST, due.length, MOST}) {
            tally.due("guide(" + a + ", " + t + ", " + i + ")", NONE, ways.guide(a, t, i));
        }
    }

    private static void guidesOfLike(Tally tally) {
        tally.begin("promise 17: of like ones those with the fewest, of like ones the first; not so many, or no SOONEST");
        ToldWays ways = Fed.landOf(ring(99, "errand", "whole", 0));
        guide(tally, ways, 0, 9, 0, 5);
        guide(tally, ways, 8, 9, 5);
        guide(tally, ways, 9, 9);
        for (int i : new int[] {LEAST, -2, -1, 0, 1, MOST}) {
            tally.due("without SOONEST guide(4, 9, " + i + ")", NONE, ways.guide(4, 9, i));
        }
        ways.habit(0, 0);
        guide(tally, ways, 0, 9, 2, 5);
        // The first PERSON decides, not the second: 1 and then 3 go ahead of 2 and then 0; by fewer minutes it is the other.
        String land = "places 4;way 0 1 5;way 1 3 5;way 0 2 5;way 2 3 ";
        String persons = ";person 2 0 0 first knows 3;person 0 0 0 first knows 0,1;person 0 0 0 first knows 2,3;person 1 0 0 first knows 1;";
        guide(tally, Fed.landOf(land + 5 + persons), 0, 3, 1, 3);
        guide(tally, Fed.landOf(land + 4 + persons), 0, 3, 2, 0);
        guide(tally, Fed.landOf(land + 6 + persons), 0, 3, 1, 3);
    }

    // ---- promise 18

    private static void lot(Tally tally, ToldWays ways, int a, int t, int... due) {
        for (int what = 0; what < 3; what++) {
            tally.due("lot(" + a + ", " + t + ", " + what + ")", due[what], ways.lot(a, t, what));
        }
    }

    private static void lotAtOnce(Tally tally) {
        tally.begin("promise 18: at once, and never");
        ToldWays ways = Fed.landOf(ring(99, "errand", "errand", 0));
        lot(tally, ways, 9, 9, 0, 0, 0);
        lot(tally, ways, 0, 0, 0, 0, 0);
        lot(tally, ways, 4, 9, 1000000000, NONE, 0);
        lot(tally, ways, 0, 9, 1000000000, NONE, 0);
        lot(tally, ways, 8, 9, 1000000000, NONE, 0);
        lot(tally, Fed.landOf("places 1;"), 0, 0, 0, 0, 0);
        lot(tally, Fed.landOf("places 2;"), 0, 1, 1000000000, NONE, 0);
    }

    private static void lotOfSix(Tally tally) {
        tally.begin("promise 18: of a BILLION: / how many, cut; the last of them what is left; / MILLION (cut)");
        // Behind 1683 minutes 333333334 are there, behind 3267 333333336, behind 4851 333333330: 3266999.993664.
        lot(tally, Fed.landOf(ring(99, "errand", "whole", 0)), 0, 9, 0, 4851, 3266999);
        // Six at once: the last has 4 more.
        String land = "places 3;way 0 1 1;way 1 2 99;way 0 2 99;";
        String lost = "person 0 0 0 first knows 0,1;", there = "person 0 0 0 whole knows 2;";
        lot(tally, Fed.landOf(land + lost.repeat(5) + there), 0, 2, 833333330, 99, 16500);
        lot(tally, Fed.landOf(land + there + lost.repeat(5)), 0, 2, 833333334, 99, 16499);
        lot(tally, Fed.landOf(land + there.repeat(6)), 0, 2, 0, 99, 99000);
        lot(tally, Fed.landOf(land + there.repeat(5) + lost), 0, 2, 166666670, 99, 82499);
        // Those who SAY nothing, and those elsewhere, do not count.
        String silent = "person 0 0 0 silent knows 2;", elsewhere = "person 2 0 0 whole knows 2;";
        lot(tally, Fed.landOf(land + silent + elsewhere + there + silent + lost + elsewhere), 0, 2, 500000000, 99, 49500);
    }

    // ---- promise 19

    private static void say(Tally tally, ToldWays ways, int a, int w, int... due) {
        for (int what = 0; what < 3; what++) {
            tally.due("say(" + a + ", " + w + ", " + what + ")", due[what], ways.say(a, w, what));
        }
    }

    private static void toSayNone(Tally tally) {
        tally.begin("promise 19: one PIECE at least, t (not a); NONE");
        ToldWays ways = Fed.landOf("places 3;way 0 1 5;way 1 2 5;person 0 1 5 whole knows 0,1;person 0 0 99 whole knows 0,1;person 1 2 99 whole;");
        // Worth as much as it takes; at its ERRAND ahead; without a WAY; nobody there.
        for (int a = 0; a < 3; a++) {
            for (int w = 0; w < 3; w++) {
                say(tally, ways, a, w, NONE, NONE, NONE);
            }
        }
        ToldWays glad = Fed.landOf("places 3;way 0 1 5;way 1 2 5;person 0 1 6 silent knows 0,1;");
        say(tally, glad, 0, 1, 0, 1, 5);
        say(tally, glad, 0, 2, NONE, NONE, NONE);
        // To stay at a: no PIECE leads there.
        say(tally, glad, 0, 0, NONE, NONE, NONE);
        say(tally, glad, 1, 0, NONE, NONE, NONE);
        glad.law(2);
        say(tally, glad, 0, 1, NONE, NONE, NONE);
        say(tally, Fed.landOf("places 1;person 0 0 99 whole;"), 0, 0, NONE, NONE, NONE);
    }

    private static void toSayOfLike(Tally tally) {
        tally.begin("promise 19: in the fewest minutes; of like ones the least PERSON, then the least t");
        // To 3 PERSON 0 comes only if asked for it, PERSON 1 also if asked for 1, behind it.
        String land = "places 4;way 0 3 9;way 3 1 5;way 0 2 4;way 2 3 4;";
        String first = "person 0 3 30 silent knows 0;", second = "person 0 3 30 silent knows 0,1;", fast = "person 0 3 30 silent knows 2,3,1;";
        say(tally, Fed.landOf(land + first + second), 0, 3, 0, 3, 9);
        say(tally, Fed.landOf(land + second + first), 0, 3, 0, 1, 9);
        say(tally, Fed.landOf(land + first + second + fast), 0, 3, 2, 1, 8);
        say(tally, Fed.landOf(land + fast + first + second + fast), 0, 3, 0, 1, 8);
        // The last PERSON, the last t.
        say(tally, Fed.landOf("places 10;way 0 9 1;" + "person 1 9 9 whole knows 0;".repeat(5) + "person 0 9 9 silent knows 0;"), 0, 9, 5, 9, 1);
    }

    // ---- promise 20

    private static void learnt(Tally tally, ToldWays ways, int a, int t, int d, int... due) {
        for (int what = 0; what < 5; what++) {
            int want = what < due.length ? due[what] : NONE;
            tally.due("learnt(" + a + ", " + t + ", " + d + ", " + what + ")", want, ways.learnt(a, t, d, what));
        }
    }

    private static void learntOfNone(Tally tally) {
        tally.begin("promise 20: none is to be learnt");
        ToldWays ways = Fed.landOf("places 3;way 0 1 5;person 0 0 0 whole knows 0;");
        learnt(tally, ways, 0, 0, 0, 0);
        learnt(tally, ways, 2, 2, 0, 0);
        learnt(tally, ways, 2, 2, 999, 0);
        learnt(tally, ways, 0, 1, 5, 0);
        // 5 minutes are not 4, whatever is learnt; nobody is at 1, and no WAY leads to 2.
        learnt(tally, ways, 0, 1, 4, NONE);
        learnt(tally, ways, 0, 1, 0, NONE);
        learnt(tally, ways, 1, 0, 999, NONE);
        learnt(tally, ways, 0, 2, 999, NONE);
        learnt(tally, Fed.landOf("places 2;way 0 1 5;"), 0, 1, 999, NONE);
        learnt(tally, Fed.landOf("places 2;person 0 1 9 whole;"), 0, 1, 999, NONE);
    }

    private static void learntBounds(Tally tally) {
        tally.begin("promise 20: d 0 .. 999");
        ToldWays ways = Fed.landOf(ring(99, "errand", "whole", 0));
        // SOONEST are 1683; with WAY 8 PERSON 5 goes from 8 to 9 in 99.
        learnt(tally, ways, 0, 9, 999, 1, 5, 8);
        learnt(tally, ways, 0, 9, 891, 1, 5, 8);
        learnt(tally, ways, 0, 9, 890, NONE);
        learnt(tally, ways, 8, 9, 891, 0);
        learnt(tally, ways, 8, 9, 890, 1, 5, 8);
        learnt(tally, ways, 8, 9, 99, 1, 5, 8);
        learnt(tally, ways, 8, 9, 98, NONE);
        for (int d : new int[] {-1, 1000, LEAST, MOST}) {
            for (int what = 0; what < 5; what++) {
                tally.due("learnt(0, 9, " + d + ", " + what + ")", OUTSIDE, ways.learnt(0, 9, d, what));
            }
        }
        for (int what : new int[] {-1, 5, LEAST, MOST}) {
            tally.due("learnt(0, 9, 0, " + what + ")", OUTSIDE, ways.learnt(0, 9, 0, what));
            tally.due("learnt(9, 9, 0, " + what + ")", OUTSIDE, ways.learnt(9, 9, 0, what));
        }
    }

    private static void learntOfThree(Tally tally) {
        tally.begin("promise 20: the fewest, 2 at most; the first in order (PERSON, then WAY; of two the lesser one ahead)");
        String land = "places 4;way 2 3 5;way 1 2 4;way 0 1 3;way 0 3 40;";
        ToldWays ways = Fed.landOf(land + "person 0 0 0 whole;person 0 0 0 whole;");
        learnt(tally, ways, 0, 1, 3, 1, 0, 2);
        learnt(tally, ways, 0, 2, 7, 2, 0, 1, 0, 2);
        learnt(tally, ways, 0, 3, 12, NONE);
        learnt(tally, ways, 0, 3, 39, NONE);
        learnt(tally, ways, 0, 3, 40, 1, 0, 3);
        // PERSON 1 alone lacks one: that goes ahead of two of PERSON 0.
        ways.learn(1, 2, true);
        learnt(tally, ways, 0, 2, 7, 1, 1, 1);
        learnt(tally, ways, 0, 3, 12, 2, 1, 0, 1, 1);
        ways.learn(0, 0, true);
        learnt(tally, ways, 0, 3, 12, 2, 0, 1, 0, 2);
        // The first PERSON, the first WAY: it lacks both; then two lack one each.
        ToldWays both = Fed.landOf(land + "person 1 0 0 whole;person 1 0 0 whole;");
        learnt(tally, both, 1, 3, 9, 2, 0, 0, 0, 1);
        learnt(tally, both, 1, 3, 8, NONE);
        ToldWays each = Fed.landOf(land + "person 2 0 0 first;person 1 0 0 first knows 0;");
        learnt(tally, each, 1, 3, 9, 2, 0, 0, 1, 1);
        // The last PERSON, the last WAY.
        StringBuilder text = new StringBuilder("places 10;");
        for (int b = 1; b < 9; b++) {
            text.append("way 0 " + b + " 1;");
        }
        text.append("way 1 2 1;way 1 3 1;way 1 4 1;way 1 5 1;way 1 6 1;way 9 8 7;" + "person 1 0 0 whole;".repeat(5) + "person 9 0 0 whole;");
        learnt(tally, Fed.landOf(text.toString()), 9, 8, 7, 1, 5, 13);
        learnt(tally, Fed.landOf(text.toString()), 9, 0, 8, 2, 5, 7, 5, 13);
    }

    private static void lastPlaces(Tally tally) {
        tally.begin("promises 12 to 20: the last PLACE there is, and the first there is not");
        ToldWays ways = Fed.landOf("places 4;way 3 0 1;" + "person 3 0 9 whole knows 0;".repeat(2));
        tally.due("route(1, 3, 0, 0)", 0, ways.route(1, 3, 0, 0));
        tally.due("says(1, 3, 0, 1)", 0, ways.says(1, 3, 0, 1));
        tally.due("own(1, 3, 0, 1)", 8, ways.own(1, 3, 0, 1));
        tally.due("led(3, 0, true, 0)", 1, ways.led(3, 0, true, 0));
        tally.due("soonest(3, 0)", 1, ways.soonest(3, 0));
        tally.due("guide(3, 0, 0)", 0, ways.guide(3, 0, 0));
        tally.due("lot(3, 0, 2)", 1000, ways.lot(3, 0, 2));
        tally.due("say(3, 0, 1)", 0, ways.say(3, 0, 1));
        tally.due("learnt(3, 0, 1, 0)", 0, ways.learnt(3, 0, 1, 0));
        for (int x : new int[] {4, -1}) {
            tally.due("route", UNKNOWN, ways.route(1, x, 0, 0));
            tally.due("route", UNKNOWN, ways.route(1, 3, x, 0));
            tally.due("says", UNKNOWN, ways.says(1, x, 0, 1));
            tally.due("says", UNKNOWN, ways.says(1, x, x, 5));
            tally.due("own", UNKNOWN, ways.own(1, 3, x, 1));
            tally.due("led", UNKNOWN, ways.led(x, x, true, 0));
            tally.due("soonest", UNKNOWN, ways.soonest(x, x));
            tally.due("guide", UNKNOWN, ways.guide(x, x, NONE));
            tally.due("lot", UNKNOWN, ways.lot(x, x, 0));
            tally.due("say", UNKNOWN, ways.say(x, x, 0));
            tally.due("learnt", UNKNOWN, ways.learnt(x, x, 0, 0));
        }
        for (int p : new int[] {2, -1}) {
            tally.due("route", UNKNOWN, ways.route(p, 3, 0, 0));
            tally.due("says", UNKNOWN, ways.says(p, 3, 0, 1));
            tally.due("own", UNKNOWN, ways.own(p, 3, 0, 1));
        }
    }

    private static void personsOfBefore(Tally tally) {
        tally.begin("promises 12 to 20: PERSONS and WAYS of THE LAND before are gone");
        for (String persons : new String[] {"", "person 2 1 99 whole knows 0;"}) {
            ToldWays ways = Fed.landOf("places 3;way 0 1 5;way 1 2 5;way 0 2 5;" + "person 0 1 99 whole knows 0,1,2;".repeat(6));
            tally.due("soonest(0, 2)", 5, ways.soonest(0, 2));
            tally.due("say(0, 1, 0)", 0, ways.say(0, 1, 0));
            Fed.text(ways, "places 3;way 0 1 5;" + persons);
            ways.land();
            tally.due("far(0, 2)", NONE, ways.far(0, 2));
            for (int t = 1; t < 3; t++) {
                led(tally, ways, 0, t, false, 0, 0, 1, 0);
                led(tally, ways, 0, t, true, 0, 0, 1, 0);
                tally.due("soonest(0, " + t + ")", NONE, ways.soonest(0, t));
                tally.due("guide(0, " + t + ", 0)", NONE, ways.guide(0, t, 0));
                lot(tally, ways, 0, t, 1000000000, NONE, 0);
                say(tally, ways, 0, t, NONE, NONE, NONE);
                learnt(tally, ways, 0, t, 999, NONE);
            }
            tally.due("route(1, 0, 1, -1)", UNKNOWN, ways.route(1, 0, 1, NONE));
            tally.due("missing(1, 5)", UNKNOWN, ways.missing(1, 5));
        }
    }
}
