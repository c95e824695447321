/** Promises 15 to 20: strangers, as they are led and as they could be. */
final class StrangerTests {
    private static final int NONE = -1, UNKNOWN = -1000000001, OUTSIDE = -1000000002;
    private static final int LEAST = Integer.MIN_VALUE, MOST = Integer.MAX_VALUE;

    /** To 3: PERSON 0 leads from 0 to 1, 1 from there back to 0, 2 from 0 to 3. */
    private static final String ROUND = "places 5;way 0 1 2;way 1 3 9;way 0 3 20;"
        + "person 0 0 0 first knows 0,1;person 1 0 0 first knows 0,2;person 0 0 0 whole knows 2;";

    private StrangerTests() {
    }

    static void run(Tally tally) {
        ledByHabits(tally);
        ledInOrder(tally);
        ledByOwn(tally);
        soonest(tally);
        guides(tally);
        lot(tally);
        lotIsCut(tally);
        say(tally);
        sayOfLike(tally);
        learnt(tally);
        learntByTwo(tally);
        learntApart(tally);
        refusals(tally);
    }

    private static void led(Tally tally, ToldWays ways, int a, int t, boolean own, int... due) {
        for (int what = 0; what < 4; what++) {
            tally.due("led(" + a + ", " + t + ", " + own + ", " + what + ")", due[what], ways.led(a, t, own, what));
        }
    }

    private static void ledByHabits(Tally tally) {
        tally.begin("promise 15, led by habits");
        ToldWays ways = Fed.landOf(ROUND);
        led(tally, ways, 0, 3, false, 24, 3, 0, 3);
        // PERSON 1 went along once; it is not asked again.
        led(tally, ways, 1, 3, false, 4, 1, 1, 2);
        led(tally, ways, 3, 3, false, 0, 3, 0, 0);
        led(tally, ways, 4, 4, false, 0, 4, 0, 0);
        led(tally, ways, 4, 3, false, 0, 4, 1, 0);
        led(tally, ways, 3, 0, false, 0, 3, 1, 0);
        ways.habit(2, 0);
        led(tally, ways, 0, 3, false, 4, 0, 1, 2);
        ways.habit(0, 3);
        led(tally, ways, 0, 3, false, 11, 3, 0, 1);
        // By every LAW the stranger goes to the END.
        for (int law = 0; law < 4; law++) {
            ways.law(law);
            led(tally, ways, 0, 3, false, 11, 3, 0, 1);
        }
    }

    private static void ledInOrder(Tally tally) {
        tally.begin("promise 15, by numbers, at their places");
        ToldWays ways = Fed.landOf("places 3;way 0 1 5;way 1 2 6;way 0 2 30;person 1 0 0 whole knows 0,1,2;person 0 0 0 silent knows 0,1,2;"
            + "person 0 0 0 whole knows 2;person 0 0 0 whole knows 0,1;");
        led(tally, ways, 0, 2, false, 30, 2, 0, 1);
        ways.habit(1, 3);
        led(tally, ways, 0, 2, false, 11, 2, 0, 1);
        ways.habit(1, 1);
        led(tally, ways, 0, 2, false, 11, 2, 0, 2);
        ways.learn(0, 1, false);
        ways.learn(0, 2, false);
        led(tally, ways, 0, 2, false, 5, 1, 1, 1);
    }

    private static void ledByOwn(Tally tally) {
        tally.begin("promise 15, led by own answers");
        ToldWays ways = Fed.landOf("places 4;way 0 1 3;way 1 2 4;way 2 3 5;person 0 1 20 whole knows 0,1,2;person 1 3 50 silent knows 1,2;");
        led(tally, ways, 0, 3, false, 12, 3, 0, 1);
        led(tally, ways, 0, 3, true, 12, 3, 0, 2);
        led(tally, ways, 0, 1, true, 3, 1, 0, 1);
        led(tally, ways, 1, 2, false, 0, 1, 1, 0);
        // For 2 alone PERSON 1 does not go.
        led(tally, ways, 0, 2, true, 3, 1, 1, 1);
        ways.law(1);
        led(tally, ways, 0, 3, true, 3, 1, 1, 1);
        ways.law(2);
        led(tally, ways, 0, 3, true, 12, 3, 0, 2);
        // By LAW 3 it is at its ERRAND behind one PIECE, if it says one; PERSON 1 would have to say three.
        ways.law(3);
        led(tally, ways, 0, 3, true, 3, 1, 1, 1);
        led(tally, ways, 3, 0, true, 0, 3, 1, 0);
    }

    private static void soonest(Tally tally) {
        tally.begin("promise 16, soonest");
        ToldWays ways = Fed.landOf(ROUND);
        tally.due("soonest(0, 3)", 20, ways.soonest(0, 3));
        tally.due("soonest(1, 3)", 22, ways.soonest(1, 3));
        tally.due("soonest(3, 3)", 0, ways.soonest(3, 3));
        tally.due("soonest(4, 4)", 0, ways.soonest(4, 4));
        tally.due("soonest(4, 0)", NONE, ways.soonest(4, 0));
        tally.due("soonest(0, 1)", 2, ways.soonest(0, 1));
        ways.habit(2, 0);
        tally.due("soonest(0, 3)", NONE, ways.soonest(0, 3));
        tally.due("soonest(1, 3)", NONE, ways.soonest(1, 3));
        ways.habit(0, 3);
        tally.due("soonest(0, 3)", 11, ways.soonest(0, 3));
        tally.due("soonest(1, 3)", 13, ways.soonest(1, 3));
        ways.law(2);
        tally.due("soonest(1, 3) by LAW 2", 13, ways.soonest(1, 3));
        ways.habit(0, 2);
        tally.due("soonest(1, 3), with an ERRAND at a", NONE, ways.soonest(1, 3));
    }

    private static void guide(Tally tally, ToldWays ways, int a, int t, int... due) {
        tally.due("guide(" + a + ", " + t + ", -1)", due.length, ways.guide(a, t, NONE));
        for (int i = 0; i < due.length; i++) {
            tally.due("guide(" + a + ", " + t + ", " + i + ")", due[i], ways.guide(a, t, i));
        }
        for (int i : new int[] {-2, -3, LEAST, due.length, due.length + 1, 6, MOST}) {
            tally.due("guide(" + a + ", " + t + ", " + i + ")", NONE, ways.guide(a, t, i));
        }
    }

    private static void guides(Tally tally) {
        tally.begin("promise 17, guide");
        ToldWays ways = Fed.landOf("places 5;way 0 1 5;way 1 4 5;way 0 2 5;way 2 4 5;way 0 4 10;person 2 0 0 whole knows 3;"
            + "person 1 0 0 whole knows 1;person 0 0 0 first knows 2,3;person 0 0 0 first knows 0,1;person 0 0 0 whole knows 4;");
        guide(tally, ways, 0, 4, 4);
        ways.habit(4, 0);
        guide(tally, ways, 0, 4, 2, 0);
        ways.habit(2, 0);
        guide(tally, ways, 0, 4, 3, 1);
        guide(tally, ways, 4, 4);
        for (int i : new int[] {-3, -2, -1, 0, 1}) {
            tally.due("guide(3, 4, " + i + ")", NONE, ways.guide(3, 4, i));
        }
        ways.habit(3, 0);
        tally.due("guide(0, 4, -1)", NONE, ways.guide(0, 4, NONE));
        // Faster by two than by one.
        ToldWays fast = Fed.landOf("places 3;way 0 2 9;way 0 1 4;way 1 2 4;person 0 0 0 whole knows 0;person 0 0 0 first knows 1,2;person 1 0 0 whole knows 2;");
        guide(tally, fast, 0, 2, 1, 2);
        // Six, one behind the other.
        StringBuilder chain = new StringBuilder("places 7;");
        for (int a = 0; a < 6; a++) {
            chain.append("way " + a + " " + (a + 1) + " 1;");
        }
        for (int a = 5; a >= 0; a--) {
            chain.append("person " + a + " 0 0 first knows 0,1,2,3,4,5;");
        }
        guide(tally, Fed.landOf(chain.toString()), 0, 6, 5, 4, 3, 2, 1, 0);
        tally.due("soonest(0, 6)", 6, Fed.landOf(chain.toString()).soonest(0, 6));
        led(tally, Fed.landOf(chain.toString()), 0, 6, false, 6, 6, 0, 6);
    }

    private static void lot(Tally tally, ToldWays ways, int a, int t, int... due) {
        for (int what = 0; what < 3; what++) {
            tally.due("lot(" + a + ", " + t + ", " + what + ")", due[what], ways.lot(a, t, what));
        }
    }

    private static void lot(Tally tally) {
        tally.begin("promise 18, lot");
        ToldWays ways = Fed.landOf(ROUND);
        lot(tally, ways, 0, 3, 0, 24, 22000);
        lot(tally, ways, 1, 3, 500000000, 22, 11000);
        lot(tally, ways, 3, 3, 0, 0, 0);
        lot(tally, ways, 4, 4, 0, 0, 0);
        lot(tally, ways, 4, 3, 1000000000, NONE, 0);
        ways.habit(2, 0);
        lot(tally, ways, 0, 3, 1000000000, NONE, 0);
        ways.law(1);
        ways.habit(0, 3);
        lot(tally, ways, 1, 3, 0, 13, 13000);
    }

    private static void lotIsCut(Tally tally) {
        tally.begin("promise 18, a billion is cut");
        String land = "places 3;way 0 1 7;way 0 2 5;way 1 2 4;";
        String seven = "person 0 0 0 whole knows 0;", nine = "person 0 0 0 whole knows 1,2;", lost = "person 0 0 0 first knows 1,2;";
        lot(tally, Fed.landOf(land + seven + nine + lost), 0, 1, 333333334, 9, 5333);
        lot(tally, Fed.landOf(land + lost + seven + nine), 0, 1, 333333333, 9, 5333);
        lot(tally, Fed.landOf(land + seven + lost + seven), 0, 1, 333333333, 7, 4666);
        lot(tally, Fed.landOf(land + seven + seven + seven + seven + seven + lost), 0, 1, 166666670, 7, 5833);
        lot(tally, Fed.landOf(land + lost + seven + seven + seven + seven + seven), 0, 1, 166666666, 7, 5833);
        lot(tally, Fed.landOf(land + seven + seven + seven), 0, 1, 0, 7, 7000);
        // 333333334 is cut again: in half, and in three, of which the last has one more.
        String end = "person 2 0 0 whole knows 2;", back = "person 2 0 0 first knows 0,1;", dead = "person 2 0 0 first knows 3,4;";
        lot(tally, Fed.landOf(land + seven + seven + lost + end + back), 0, 1, 0, 17, 9000);
        String more = "places 4;way 0 1 7;way 0 2 5;way 1 2 4;way 2 3 1;way 3 1 1;";
        lot(tally, Fed.landOf(more + seven + seven + lost + end + end + dead), 0, 1, 111111112, 9, 6666);
        lot(tally, Fed.landOf(more + seven + seven + lost + dead + end + end), 0, 1, 111111111, 9, 6666);
        lot(tally, Fed.landOf(more + seven + lost + end + end + dead), 0, 1, 166666668, 9, 6499);
    }

    private static void say(Tally tally, ToldWays ways, int a, int w, int... due) {
        for (int what = 0; what < 3; what++) {
            tally.due("say(" + a + ", " + w + ", " + what + ")", due[what], ways.say(a, w, what));
        }
    }

    private static void say(Tally tally) {
        tally.begin("promise 19, say");
        ToldWays ways = Fed.landOf("places 5;way 0 1 3;way 1 2 4;way 2 3 5;way 0 2 9;way 3 4 1;person 1 2 50 silent knows 1,2;"
            + "person 0 2 30 silent knows 3,2;person 0 2 30 silent knows 0,1,2;");
        say(tally, ways, 0, 2, 2, 2, 7);
        say(tally, ways, 1, 2, 0, 2, 4);
        ToldWays back = Fed.landOf("places 2;way 0 1 3;person 1 0 9 whole knows 0;");
        say(tally, back, 1, 0, 0, 0, 3);
        // Nobody is glad to go there; one is there; nobody is here.
        say(tally, ways, 0, 3, NONE, NONE, NONE);
        say(tally, ways, 0, 1, NONE, NONE, NONE);
        say(tally, ways, 0, 0, NONE, NONE, NONE);
        say(tally, ways, 3, 2, NONE, NONE, NONE);
        ways.learn(2, 1, false);
        say(tally, ways, 0, 2, 1, 2, 9);
        ways.law(2);
        say(tally, ways, 0, 2, 1, 2, 9);
        ways.learn(2, 1, true);
        // By LAW 1 PERSON 2 would not come to its ERRAND by one PIECE.
        ways.law(1);
        say(tally, ways, 0, 2, 1, 2, 9);
        // By LAW 3 it has to say three PIECES to go two: one asks for 3, and is led there.
        ways.law(3);
        say(tally, ways, 0, 3, 2, 3, 12);
        say(tally, ways, 0, 2, 1, 2, 9);
    }

    private static void sayOfLike(Tally tally) {
        tally.begin("promise 19, of like ones");
        // Also for 1, behind 2; of two PERSONS alike the lesser.
        String land = "places 4;way 0 2 9;way 2 1 5;way 2 3 5;way 0 3 20;";
        ToldWays ways = Fed.landOf(land + "person 0 2 30 silent knows 0,2;person 0 2 30 silent knows 0,1,2;person 0 0 30 whole knows 0;");
        say(tally, ways, 0, 2, 0, 2, 9);
        ways.learn(0, 1, true);
        say(tally, ways, 0, 2, 0, 1, 9);
        ways.learn(0, 0, false);
        say(tally, ways, 0, 2, 1, 1, 9);
        ways.learn(1, 0, false);
        say(tally, ways, 0, 2, NONE, NONE, NONE);
        // The least t goes behind the fewest minutes and the least PERSON.
        ToldWays far = Fed.landOf(land + "person 0 3 99 silent knows 3,2,1;person 0 3 99 silent knows 0,2;");
        say(tally, far, 0, 3, 1, 3, 14);
    }

    private static void learnt(Tally tally, ToldWays ways, int a, int t, int d, int... due) {
        for (int what = 0; what < 5; what++) {
            int want = what < due.length ? due[what] : NONE;
            tally.due("learnt(" + a + ", " + t + ", " + d + ", " + what + ")", want, ways.learnt(a, t, d, what));
        }
    }

    private static void learnt(Tally tally) {
        tally.begin("promise 20, learnt");
        ToldWays ways = Fed.landOf("places 5;way 0 1 3;way 1 2 4;way 2 3 5;way 3 4 6;way 0 2 8;person 0 0 0 whole knows 0;person 0 0 0 whole knows 0;");
        learnt(tally, ways, 0, 0, 0, 0);
        learnt(tally, ways, 0, 1, 3, 0);
        learnt(tally, ways, 0, 1, 2, NONE);
        learnt(tally, ways, 0, 2, 7, 1, 0, 1);
        learnt(tally, ways, 0, 2, 6, NONE);
        learnt(tally, ways, 0, 2, 999, 1, 0, 1);
        learnt(tally, ways, 0, 3, 12, 2, 0, 1, 0, 2);
        learnt(tally, ways, 0, 3, 13, 2, 0, 1, 0, 2);
        learnt(tally, ways, 0, 3, 11, NONE);
        learnt(tally, ways, 0, 4, 999, NONE);
        learnt(tally, ways, 4, 0, 999, NONE);
        ways.learn(1, 4, true);
        learnt(tally, ways, 0, 2, 8, 0);
        learnt(tally, ways, 0, 2, 7, 1, 0, 1);
        learnt(tally, ways, 0, 3, 13, 1, 1, 2);
        learnt(tally, ways, 0, 3, 12, 2, 0, 1, 0, 2);
        tally.due("nothing is learnt by it: person(0, 4)", 1, ways.person(0, 4));
        tally.due("nothing is learnt by it: person(1, 4)", 17, ways.person(1, 4));
        tally.due("nothing is learnt by it: soonest(0, 2)", 8, ways.soonest(0, 2));
        ways.learn(0, 0, false);
        ways.learn(1, 0, false);
        // What is known ahead is not learnt: to 1 PERSON 0 goes by WAY 0, and 1 by WAY 4 and then by 1.
        learnt(tally, ways, 0, 1, 999, 1, 0, 0);
        learnt(tally, ways, 0, 1, 2, NONE);
    }

    private static void learntByTwo(Tally tally) {
        tally.begin("promise 20, learnt by two persons");
        ToldWays ways = Fed.landOf("places 5;way 0 1 3;way 1 2 4;way 2 3 5;way 3 4 1;person 0 0 0 first knows 0,1,2;person 1 0 0 first knows 2;"
            + "person 2 0 0 first;");
        learnt(tally, ways, 0, 3, 12, 2, 1, 1, 2, 2);
        learnt(tally, ways, 0, 3, 11, NONE);
        learnt(tally, ways, 1, 3, 9, 2, 1, 1, 2, 2);
        learnt(tally, ways, 2, 3, 5, 1, 2, 2);
        learnt(tally, ways, 0, 2, 7, 1, 1, 1);
        learnt(tally, ways, 2, 4, 999, NONE);
        ways.habit(2, 3);
        learnt(tally, ways, 2, 4, 6, 2, 2, 2, 2, 3);
        ways.habit(2, 0);
        learnt(tally, ways, 2, 3, 999, NONE);
        // One who learns a shorter ROUTE may no longer lead where it did: such a WAY is none of them.
        ToldWays turned = Fed.landOf("places 4;way 0 1 5;way 1 3 5;way 0 2 2;way 2 3 2;person 0 1 0 errand knows 0,1;person 1 0 0 whole;");
        learnt(tally, turned, 0, 3, 10, 1, 1, 1);
        turned.learn(0, 2, true);
        turned.learn(0, 3, true);
        learnt(tally, turned, 0, 3, 10, NONE);
    }

    private static void learntApart(Tally tally) {
        tally.begin("promise 20, what is not learnt is not known");
        // PERSON 1 lacks the last WAY, 2 another one: neither alone is enough.
        ToldWays last = Fed.landOf("places 5;way 0 1 3;way 2 3 5;way 3 4 1;way 1 2 4;person 0 0 0 first knows 0,1,3;person 1 0 0 first knows 1;"
            + "person 2 0 0 first;");
        learnt(tally, last, 0, 3, 12, 2, 1, 3, 2, 1);
        // Each lacks one: three are too many.
        ToldWays three = Fed.landOf("places 4;way 0 1 3;way 1 2 4;way 2 3 5;person 0 0 0 first knows 1,2;person 1 0 0 first knows 2;person 2 0 0 first;");
        learnt(tally, three, 0, 3, 999, NONE);
        learnt(tally, three, 1, 3, 9, 2, 1, 1, 2, 2);
        // The END stays, but one comes there sooner: 10 and 10 minutes become 4 and 4.
        ToldWays sooner = Fed.landOf("places 5;way 0 3 5;way 3 1 5;way 1 4 5;way 4 2 5;way 1 2 4;way 0 1 4;person 0 1 9 errand knows 0,1,2,3;"
            + "person 1 0 0 whole knows 2,3;");
        learnt(tally, sooner, 0, 2, 20, 0);
        learnt(tally, sooner, 0, 2, 19, 1, 0, 5);
        learnt(tally, sooner, 0, 2, 14, 1, 0, 5);
        learnt(tally, sooner, 0, 2, 13, 2, 0, 5, 1, 4);
        learnt(tally, sooner, 0, 2, 8, 2, 0, 5, 1, 4);
        learnt(tally, sooner, 0, 2, 7, NONE);
        // As many minutes to another END, where somebody lacks one WAY.
        ToldWays other = Fed.landOf("places 5;way 0 1 5;way 1 4 9;way 0 2 5;way 2 4 3;person 0 0 0 first knows 0,1,3;person 2 0 0 whole;");
        learnt(tally, other, 0, 4, 999, 2, 0, 2, 1, 3);
    }

    private static void refusals(Tally tally) {
        tally.begin("promises 15 to 20, refusals");
        ToldWays ways = Fed.landOf(ROUND);
        for (int x : new int[] {-1, 5, 10, LEAST, MOST}) {
            tally.due("led", UNKNOWN, ways.led(x, 0, true, 0));
            tally.due("led", UNKNOWN, ways.led(0, x, false, 4));
            tally.due("soonest", UNKNOWN, ways.soonest(x, 0));
            tally.due("soonest", UNKNOWN, ways.soonest(0, x));
            tally.due("guide", UNKNOWN, ways.guide(x, 0, 0));
            tally.due("guide", UNKNOWN, ways.guide(0, x, -5));
            tally.due("lot", UNKNOWN, ways.lot(x, 0, 0));
            tally.due("lot", UNKNOWN, ways.lot(0, x, 3));
            tally.due("say", UNKNOWN, ways.say(x, 0, 0));
            tally.due("say", UNKNOWN, ways.say(0, x, -1));
            tally.due("learnt", UNKNOWN, ways.learnt(x, 0, 5, 0));
            tally.due("learnt", UNKNOWN, ways.learnt(0, x, -1, 9));
        }
        for (int what : new int[] {-1, 5, LEAST, MOST}) {
            tally.due("led", OUTSIDE, ways.led(0, 3, true, what));
            tally.due("lot", OUTSIDE, ways.lot(0, 3, what));
            tally.due("say", OUTSIDE, ways.say(0, 3, what));
            tally.due("learnt", OUTSIDE, ways.learnt(0, 3, 5, what));
        }
        tally.due("led", OUTSIDE, ways.led(0, 3, false, 4));
        tally.due("led, a is t", OUTSIDE, ways.led(3, 3, false, 4));
        tally.due("lot", OUTSIDE, ways.lot(0, 3, 3));
        tally.due("say", OUTSIDE, ways.say(0, 3, 3));
        for (int d : new int[] {-1, 1000, LEAST, MOST}) {
            tally.due("learnt by " + d, OUTSIDE, ways.learnt(0, 3, d, 0));
            tally.due("learnt by " + d, OUTSIDE, ways.learnt(3, 3, d, 0));
        }
    }
}
