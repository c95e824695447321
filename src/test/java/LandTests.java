/** Promises 1 to 11: the land, as it is told and asked. */
final class LandTests {
    private static final int NONE = -1, UNKNOWN = -1000000001, OUTSIDE = -1000000002, NOT = -1000000003, FULL = -1000000004;
    private static final int LEAST = Integer.MIN_VALUE, MOST = Integer.MAX_VALUE;

    private static final String LAND = "places 4;way 0 1 5;way 2 1 99;person 3 0 7 errand knows 1,0;way 0 3 1;person 1 1 99 silent;";

    private LandTests() {
    }

    static void run(Tally tally) {
        newObject(tally);
        feed(tally);
        land(tally);
        faultCannotStand(tally);
        faultOutOfBounds(tally);
        faultTooMany(tally);
        faultAgain(tally);
        faultsInOrder(tally);
        blanks(tally);
        told(tally);
        way(tally);
        person(tally);
        far(tally);
        law(tally);
        learn(tally);
        habit(tally);
    }

    private static void newObject(Tally tally) {
        tally.begin("promise 1, a new object");
        ToldWays ways = new ToldWays();
        for (int what = 0; what < 7; what++) {
            tally.due("told(" + what + ")", 0, ways.told(what));
        }
        tally.due("fault()", NONE, ways.fault());
        tally.due("way(0, 0)", UNKNOWN, ways.way(0, 0));
        tally.due("person(0, 0)", UNKNOWN, ways.person(0, 0));
        tally.due("far(0, 0)", UNKNOWN, ways.far(0, 0));
        tally.due("learn(0, 0, true)", UNKNOWN, ways.learn(0, 0, true));
        tally.due("habit(0, 9)", UNKNOWN, ways.habit(0, 9));
        tally.due("route(0, 0, 0, 0)", UNKNOWN, ways.route(0, 0, 0, 0));
        tally.due("says(0, 0, 0, 0)", UNKNOWN, ways.says(0, 0, 0, 0));
        tally.due("own(0, 0, 0, 0)", UNKNOWN, ways.own(0, 0, 0, 0));
        tally.due("guide(0, 0, 0)", UNKNOWN, ways.guide(0, 0, 0));
        tally.due("lot(0, 0, 0)", UNKNOWN, ways.lot(0, 0, 0));
        tally.due("say(0, 0, 0)", UNKNOWN, ways.say(0, 0, 0));
        tally.due("learnt(0, 0, 0, 0)", UNKNOWN, ways.learnt(0, 0, 0, 0));
        tally.due("lack(0, 0)", UNKNOWN, ways.lack(0, 0));
        tally.due("log(0, 0, 0, 0)", UNKNOWN, ways.log(0, 0, 0, 0));
        tally.due("drift(1, 0)", NOT, ways.drift(1, 0));
        tally.due("seed(0)", 0, ways.seed(0));
        tally.due("goBack(0)", NOT, ways.goBack(0));
        tally.due("goBack(1)", NOT, ways.goBack(1));
        tally.due("fits()", 1, ways.fits());
        tally.due("judge()", NONE, ways.judge());
        tally.due("clear()", 0, ways.clear());
        tally.due("NONE", NONE, ToldWays.NONE);
        tally.due("UNKNOWN", UNKNOWN, ToldWays.UNKNOWN);
        tally.due("OUTSIDE", OUTSIDE, ToldWays.OUTSIDE);
        tally.due("NOT", NOT, ToldWays.NOT);
        tally.due("FULL", FULL, ToldWays.FULL);
    }

    private static void feed(Tally tally) {
        tally.begin("promise 2, feed");
        ToldWays ways = new ToldWays();
        for (int n : new int[] {0, 9, -1, LEAST, MOST}) {
            tally.due("feed(" + n + ", 0)", OUTSIDE, ways.feed(n, 0));
        }
        // The highest of the lowest n bytes comes first; what is above them is left.
        tally.due("feed(3)", 3, ways.feed(3, 0x3b3b3b3b3b706c61L));
        tally.due("feed(1)", 4, ways.feed(1, -256 + 'c'));
        tally.due("feed(6)", 10, ways.feed(6, Fed.packed("es 10;")));
        tally.due("land()", 10, ways.land());
        tally.due("feed(8)", 8, ways.feed(8, Fed.packed("places 2")));
        tally.due("feed(8)", 16, ways.feed(8, -1));
        tally.due("land(): bytes of 255", -11, ways.land());
        tally.due("fault()", 8, ways.fault());
        for (int i = 1; i <= 49; i++) {
            tally.due("feed(8)", 8 * i, ways.feed(8, 0x2020202020202020L));
        }
        tally.due("feed(7)", 399, ways.feed(7, 0x20202020202020L));
        tally.due("feed(2) over the end", FULL, ways.feed(2, 0));
        tally.due("feed(8) over the end", FULL, ways.feed(8, 0));
        tally.due("told(3)", 399, ways.told(3));
        tally.due("feed(1) to the end", 400, ways.feed(1, 32));
        tally.due("feed(1) over the end", FULL, ways.feed(1, 32));
        tally.due("feed(9) over the end", OUTSIDE, ways.feed(9, 32));
        tally.due("told(3)", 400, ways.told(3));
        tally.due("land(): blanks", 0, ways.land());
        tally.due("told(3)", 0, ways.told(3));
    }

    private static void land(Tally tally) {
        tally.begin("promise 3, land");
        ToldWays ways = Fed.landOf(LAND);
        ways.law(2);
        ways.seed(77);
        ways.keep(0);
        ways.keep(1);
        ways.log(0, 0, 0, 0);
        ways.lack(0, 5);
        ways.learn(1, 2, true);
        Fed.text(ways, "places 9;;");
        tally.due("land() with a FAULT", -11, ways.land());
        int[] asItWas = {4, 3, 2, 0, 2, 1, 1};
        for (int what = 0; what < 7; what++) {
            tally.due("with a FAULT told(" + what + ")", asItWas[what], ways.told(what));
        }
        tally.due("person(1, 4)", 4, ways.person(1, 4));
        tally.due("goBack(0)", 1, ways.goBack(0));
        tally.due("goBack(1)", 1, ways.goBack(1));
        tally.due("person(1, 4)", 0, ways.person(1, 4));
        Fed.text(ways, "places 2;way 1 0 3;person 0 1 2 whole;");
        tally.due("land()", 2, ways.land());
        int[] anew = {2, 1, 1, 0, 2, 0, 0};
        for (int what = 0; what < 7; what++) {
            tally.due("anew told(" + what + ")", anew[what], ways.told(what));
        }
        tally.due("goBack(0)", NOT, ways.goBack(0));
        tally.due("goBack(1)", NOT, ways.goBack(1));
        tally.due("person(0, 4), of which nothing is told", 0, ways.person(0, 4));
        tally.due("seed(0)", 77, ways.seed(0));
        tally.due("land() of nothing", 0, ways.land());
        tally.due("far(0, 0)", UNKNOWN, ways.far(0, 0));
        tally.due("told(2)", 0, ways.told(2));
        tally.due("told(4)", 2, ways.told(4));
    }

    /** What land() and fault() answer to a text. */
    private static void fault(Tally tally, String text, int kind, int place) {
        ToldWays ways = new ToldWays();
        Fed.text(ways, text);
        tally.due("land() of '" + text + "'", -10 - kind, ways.land());
        tally.due("fault() of '" + text + "'", place, ways.fault());
        tally.due("told(3) behind '" + text + "'", 0, ways.told(3));
        ways.land();
        tally.due("fault() behind an empty text", NONE, ways.fault());
    }

    private static void fine(Tally tally, String text, int places) {
        ToldWays ways = new ToldWays();
        Fed.text(ways, text);
        tally.due("land() of '" + text + "'", places, ways.land());
        tally.due("fault() of '" + text + "'", NONE, ways.fault());
    }

    private static void faultCannotStand(Tally tally) {
        tally.begin("promises 3, 4, FAULT 1");
        fault(tally, ";", 1, 0);
        fault(tally, "  x", 1, 2);
        fault(tally, "5;", 1, 0);
        fault(tally, "1234;", 1, 0);
        fault(tally, "way 0 1 1;", 1, 0);
        fault(tally, " person 0 0 0 first;", 1, 1);
        fault(tally, "placess 2;", 1, 0);
        fault(tally, "place 2;", 1, 0);
        fault(tally, "xlaces 2;", 1, 0);
        fault(tally, "placesz 2;", 1, 0);
        fault(tally, "placesa 2;", 1, 0);
        fault(tally, "places{2;", 1, 6);
        fault(tally, "places`2;", 1, 6);
        fault(tally, "places 2/", 1, 8);
        fault(tally, "places 2:", 1, 8);
        fault(tally, "pla ces 2;", 1, 0);
        fault(tally, "Places 2;", 1, 0);
        fault(tally, "plaCes 2;", 1, 0);
        fault(tally, "places", 1, 6);
        fault(tally, "places   ", 1, 9);
        fault(tally, "places 2", 1, 8);
        fault(tally, "places 2 ", 1, 9);
        fault(tally, "places ;", 1, 7);
        fault(tally, "places two;", 1, 7);
        fault(tally, "places 2 2;", 1, 9);
        fault(tally, "places 2way 0 1 1;", 1, 8);
        fault(tally, "places 2,", 1, 8);
        fault(tally, "places\t2;", 1, 6);
        fault(tally, "places 2;;", 1, 9);
        fault(tally, "places 2;\n", 1, 9);
        fault(tally, "places 2;\u0000", 1, 9);
        fault(tally, "places 2;\u00e9", 1, 9);
        fault(tally, "places 2;ways 0 1 1;", 1, 9);
        fault(tally, "places 2;silent;", 1, 9);
        fault(tally, "places 2;way -0 1 1;", 1, 13);
        fault(tally, "places 2;way 0,1 1;", 1, 14);
        fault(tally, "places 2;way 0 1;", 1, 16);
        fault(tally, "places 2;way 0 1 1 1;", 1, 19);
        fault(tally, "places 2;person 0 0 1;", 1, 21);
        fault(tally, "places 2;person 0 0 1 firs;", 1, 22);
        fault(tally, "places 2;person 0 0 1 way;", 1, 22);
        fault(tally, "places 2;person 0 0 1 5;", 1, 22);
        fault(tally, "places 2;person 0 0 first 1;", 1, 20);
        fault(tally, "places 2;way 0 1 1;person 0 0 1 firstknows 0;", 1, 32);
        fault(tally, "places 2;way 0 1 1;person 0 0 1 first know 0;", 1, 38);
        fault(tally, "places 2;way 0 1 1;person 0 0 1 first 0;", 1, 38);
        fault(tally, "places 2;way 0 1 1;person 0 0 1 first knows;", 1, 43);
        fault(tally, "places 2;way 0 1 1;person 0 0 1 first knows 0,;", 1, 46);
        fault(tally, "places 2;way 0 1 1;person 0 0 1 first knows,0;", 1, 43);
        fault(tally, "places 2;way 0 1 1;person 0 0 1 first knows 0", 1, 45);
        fault(tally, "places 2;way 0 1 1;person 0 0 1 first knows 0 0;", 1, 46);
        fault(tally, "places 2;way 0 1 1;person 0 0 1 first knows 0 first;", 1, 46);
        fault(tally, "places 2;way 0 1 1;person 0 0 1 first,", 1, 37);
    }

    private static void faultOutOfBounds(Tally tally) {
        tally.begin("promises 3, 4, FAULT 2");
        fault(tally, "places 0;", 2, 7);
        fault(tally, "places 11;", 2, 7);
        fault(tally, "places 0002;", 2, 7);
        fault(tally, "places  1000", 2, 8);
        fault(tally, "places 4294967298;", 2, 7);
        fault(tally, "places 3;way 3 0 1;", 2, 13);
        fault(tally, "places 3;way 0 3 1;", 2, 15);
        fault(tally, "places 3;way 0001 0 1;", 2, 13);
        fault(tally, "places 3;way 0 1 0;", 2, 17);
        fault(tally, "places 3;way 0 1 100;", 2, 17);
        fault(tally, "places 3;way 0 1 0005;", 2, 17);
        fault(tally, "places 3;person 3 0 0 first;", 2, 16);
        fault(tally, "places 3;person 0 3 0 first;", 2, 18);
        fault(tally, "places 3;person 0 0 100 first;", 2, 20);
        fault(tally, "places 3;person 0 0 0 first knows 0;", 2, 34);
        fault(tally, "places 3;way 0 1 1;person 0 0 0 first knows 0,  1;", 2, 48);
        fault(tally, "places 3;way 0 1 1;person 0 0 0 first knows 0000;", 2, 44);
        fault(tally, "places 3;person 0 0 0 first knows 0;way 0 1 1;", 2, 34);
        fine(tally, "places 010;way 009 000 099;person 009 000 099 whole knows 000;", 10);
        fine(tally, "places 1;person 0 0 0 whole;", 1);
        fine(tally, "places 3;way 0 2 1;way 0 1 99;person 2 2 99 whole;", 3);
    }

    /** 14 WAYS, all that there are from PLACES 0 and 1 but the last. */
    private static String fullOfWays() {
        StringBuilder text = new StringBuilder("places 10;");
        for (int b = 1; b < 10; b++) {
            text.append("way 0 ").append(b).append(" 1;");
        }
        for (int b = 2; b < 7; b++) {
            text.append("way 1 ").append(b).append(" 1;");
        }
        return text.toString();
    }

    private static void faultTooMany(Tally tally) {
        tally.begin("promises 3, 4, FAULT 3");
        fault(tally, "places 2;places 2;", 3, 9);
        fault(tally, "places 2; places", 3, 10);
        fault(tally, "places 1;places 1;", 3, 9);
        fault(tally, "places 1;way 0 0 1;", 4, 15);
        String ways = fullOfWays();
        fine(tally, ways, 10);
        fault(tally, ways + " way 1 7 1;", 3, ways.length() + 1);
        fault(tally, ways + "way", 3, ways.length());
        fault(tally, ways + "ways", 1, ways.length());
        String persons = "places 2;" + "person 0 1 9 first;".repeat(6);
        fine(tally, persons, 2);
        fault(tally, persons + "person 0 1 9 first;", 3, persons.length());
        fault(tally, persons + "  person", 3, persons.length() + 2);
        fault(tally, persons + "persons", 1, persons.length());
        fault(tally, persons + "places 3;", 3, persons.length());
        ToldWays all = Fed.landOf(ways + "person 0 1 9 first knows 13,0;");
        tally.due("person(0, 4)", 1 << 13 | 1, all.person(0, 4));
        tally.due("way(13, 1)", 6, all.way(13, 1));
    }

    private static void faultAgain(Tally tally) {
        tally.begin("promises 3, 4, FAULT 4");
        fault(tally, "places 2;way 0 0 1;", 4, 15);
        fault(tally, "places 2;way 1  1", 4, 16);
        fault(tally, "places 2;way 0 1 1;way 0 1 2;", 4, 25);
        fault(tally, "places 2;way 0 1 1;way 1 0 1;", 4, 25);
        fault(tally, "places 3;way 0 1 1;way 1 2 1;way 2 0 1;way 2 1 1;", 4, 45);
        fault(tally, "places 2;way 0 1 1;person 0 0 1 first knows 0,0;", 4, 46);
        fault(tally, "places 3;way 0 1 1;way 1 2 1;person 0 0 1 first knows 1,0, 1;", 4, 59);
        fault(tally, "places 2;way 0 1 1;person 0 0 1 first knows 0,000", 4, 46);
        fine(tally, "places 3;way 0 1 1;way 1 2 1;way 2 0 1;", 3);
        fine(tally, "places 1;person 0 0 1 first;person 0 0 1 first;", 1);
    }

    private static void faultsInOrder(Tally tally) {
        tally.begin("promise 4, the first byte that has a FAULT");
        fault(tally, "places 11", 2, 7);
        fault(tally, "places 2;way 0 0 100", 4, 15);
        fault(tally, "places 2;way 2 2 0;", 2, 13);
        fault(tally, "places 2;way 0 2 0;", 2, 15);
        fault(tally, "places 2;way 1 1 1;x", 4, 15);
        fault(tally, "places 2;person 0 2 100 loud", 2, 18);
        fault(tally, "way 0 0 1234;", 1, 0);
        ToldWays ways = new ToldWays();
        Fed.text(ways, "places 2;x");
        ways.land();
        Fed.text(ways, "x");
        tally.due("fault() while a text is fed", 9, ways.fault());
        ways.land();
        tally.due("fault() of the latest", 0, ways.fault());
    }

    private static void blanks(Tally tally) {
        tally.begin("promise 3, blanks");
        fine(tally, "", 0);
        fine(tally, "     ", 0);
        fine(tally, "places2;way0 1 5;person0 1 9first;", 2);
        fine(tally, "  places  2  ;  way  0  1  5  ;  person  0  1  9  first  knows  0  ;  ", 2);
        fine(tally, "places3;way0 1 5;way1 2 5;person0 1 9whole knows0,1;", 3);
        fine(tally, "places3;way0 1 5;way1 2 5;person0 1 9whole knows 0 , 1 ;", 3);
    }

    private static void told(Tally tally) {
        tally.begin("promise 5, told");
        ToldWays ways = Fed.landOf(LAND);
        Fed.text(ways, "abc");
        ways.law(3);
        ways.log(0, 0, 0, 0);
        ways.log(0, 0, 0, 0);
        ways.lack(0, 1);
        int[] due = {4, 3, 2, 3, 3, 2, 1};
        for (int what = 0; what < 7; what++) {
            tally.due("told(" + what + ")", due[what], ways.told(what));
        }
        for (int what : new int[] {-1, 7, LEAST, MOST}) {
            tally.due("told(" + what + ")", OUTSIDE, ways.told(what));
        }
    }

    private static void way(Tally tally) {
        tally.begin("promise 6, way");
        ToldWays ways = Fed.landOf(LAND);
        int[][] due = {{0, 1, 5}, {2, 1, 99}, {0, 3, 1}};
        for (int w = 0; w < 3; w++) {
            for (int what = 0; what < 3; what++) {
                tally.due("way(" + w + ", " + what + ")", due[w][what], ways.way(w, what));
            }
            tally.due("way(" + w + ", -1)", OUTSIDE, ways.way(w, -1));
            tally.due("way(" + w + ", 3)", OUTSIDE, ways.way(w, 3));
        }
        for (int w : new int[] {-1, 3, 14, LEAST, MOST}) {
            tally.due("way(" + w + ", 0)", UNKNOWN, ways.way(w, 0));
            tally.due("way(" + w + ", 9)", UNKNOWN, ways.way(w, 9));
        }
    }

    private static void person(Tally tally) {
        tally.begin("promise 7, person");
        ToldWays ways = Fed.landOf(LAND + "person 0 2 0 first knows 2;person 0 2 0 whole knows 2,1,0;");
        int[][] due = {{3, 0, 7, 2, 3}, {1, 1, 99, 0, 0}, {0, 2, 0, 1, 4}, {0, 2, 0, 3, 7}};
        for (int p = 0; p < 4; p++) {
            for (int what = 0; what < 5; what++) {
                tally.due("person(" + p + ", " + what + ")", due[p][what], ways.person(p, what));
            }
            tally.due("person(" + p + ", -1)", OUTSIDE, ways.person(p, -1));
            tally.due("person(" + p + ", 5)", OUTSIDE, ways.person(p, 5));
        }
        for (int p : new int[] {-1, 4, 6, LEAST, MOST}) {
            tally.due("person(" + p + ", 0)", UNKNOWN, ways.person(p, 0));
            tally.due("person(" + p + ", 5)", UNKNOWN, ways.person(p, 5));
        }
    }

    private static void far(Tally tally) {
        tally.begin("promise 8, far");
        ToldWays ways = Fed.landOf("places 6;way 0 1 5;way 1 2 5;way 0 2 11;way 2 3 99;way 4 5 1;");
        int[][] due = {{0, 5, 10, 109, NONE, NONE}, {5, 0, 5, 104, NONE, NONE}, {10, 5, 0, 99, NONE, NONE},
            {109, 104, 99, 0, NONE, NONE}, {NONE, NONE, NONE, NONE, 0, 1}, {NONE, NONE, NONE, NONE, 1, 0}};
        for (int a = 0; a < 6; a++) {
            for (int b = 0; b < 6; b++) {
                tally.due("far(" + a + ", " + b + ")", due[a][b], ways.far(a, b));
            }
        }
        for (int a : new int[] {-1, 6, LEAST, MOST}) {
            tally.due("far(" + a + ", 0)", UNKNOWN, ways.far(a, 0));
            tally.due("far(0, " + a + ")", UNKNOWN, ways.far(0, a));
        }
        StringBuilder chain = new StringBuilder("places 10;");
        for (int a = 0; a < 9; a++) {
            chain.append("way " + (a + 1) + " " + a + " 99;");
        }
        tally.due("far(0, 9), the longest", 891, Fed.landOf(chain.toString()).far(0, 9));
    }

    private static void law(Tally tally) {
        tally.begin("promise 9, law");
        ToldWays ways = new ToldWays();
        tally.due("law(3)", 0, ways.law(3));
        for (int v : new int[] {-1, 4, LEAST, MOST}) {
            tally.due("law(" + v + ")", OUTSIDE, ways.law(v));
        }
        tally.due("law(1)", 3, ways.law(1));
        tally.due("law(2)", 1, ways.law(2));
        tally.due("law(0)", 2, ways.law(0));
        tally.due("told(4)", 0, ways.told(4));
    }

    private static void learn(Tally tally) {
        tally.begin("promise 10, learn");
        ToldWays ways = Fed.landOf(LAND);
        tally.due("learn(1, 2, true)", 0, ways.learn(1, 2, true));
        tally.due("learn(1, 2, true)", 1, ways.learn(1, 2, true));
        tally.due("person(1, 4)", 4, ways.person(1, 4));
        tally.due("person(0, 4)", 3, ways.person(0, 4));
        tally.due("learn(0, 0, false)", 1, ways.learn(0, 0, false));
        tally.due("learn(0, 0, false)", 0, ways.learn(0, 0, false));
        tally.due("person(0, 4)", 2, ways.person(0, 4));
        tally.due("route(1, 0, 3, -2)", 1, ways.route(1, 0, 3, -2));
        for (int x : new int[] {-1, 3, 14, LEAST, MOST}) {
            tally.due("learn(" + x + ", 0, true)", UNKNOWN, ways.learn(x, 0, true));
            tally.due("learn(0, " + x + ", true)", UNKNOWN, ways.learn(0, x, true));
        }
        tally.due("learn(2, 0, true)", UNKNOWN, ways.learn(2, 0, true));
        tally.due("person(0, 4)", 2, ways.person(0, 4));
    }

    private static void habit(Tally tally) {
        tally.begin("promise 11, habit");
        ToldWays ways = Fed.landOf(LAND);
        tally.due("habit(0, 3)", 2, ways.habit(0, 3));
        tally.due("habit(0, 4)", OUTSIDE, ways.habit(0, 4));
        tally.due("habit(0, -1)", OUTSIDE, ways.habit(0, -1));
        tally.due("habit(0, 1)", 3, ways.habit(0, 1));
        tally.due("habit(0, 0)", 1, ways.habit(0, 0));
        tally.due("person(0, 3)", 0, ways.person(0, 3));
        tally.due("habit(1, 2)", 0, ways.habit(1, 2));
        tally.due("person(1, 3)", 2, ways.person(1, 3));
        for (int p : new int[] {-1, 2, LEAST, MOST}) {
            tally.due("habit(" + p + ", 1)", UNKNOWN, ways.habit(p, 1));
            tally.due("habit(" + p + ", 4)", UNKNOWN, ways.habit(p, 4));
        }
    }
}
