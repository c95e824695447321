/** The sentences on texts and the land (promises 1 to 11) that name an edge, each with a test of its own. */
final class LandEdgeTests {
    private static final int NONE = -1, UNKNOWN = -1000000001, OUTSIDE = -1000000002, NOT = -1000000003, FULL = -1000000004;
    private static final int LEAST = Integer.MIN_VALUE, MOST = Integer.MAX_VALUE;

    private LandEdgeTests() {
    }

    static void run(Tally tally) {
        noPlaces(tally);
        feedBounds(tally);
        feedBytes(tally);
        feedFull(tally);
        textOf400(tally);
        emptyText(tally);
        placesBounds(tally);
        wayBounds(tally);
        wayOnce(tally);
        waysFull(tally);
        personBounds(tally);
        personsFull(tally);
        knownBounds(tally);
        figures(tally);
        sideBySide(tally);
        cannotStand(tally);
        atTheEnd(tally);
        leastFault(tally);
        firstFault(tally);
        faultOfTheLatest(tally);
        faultLeavesAll(tally);
        landLeaves(tally);
        toldFullest(tally);
        members(tally);
        farthest(tally);
        laws(tally);
        learning(tally);
        habits(tally);
    }

    // ---- texts

    private static ToldWays fedWith(String text) {
        ToldWays ways = new ToldWays();
        Fed.text(ways, text);
        return ways;
    }

    private static void fault(Tally tally, String text, int kind, int place) {
        ToldWays ways = fedWith(text);
        tally.due("land() of '" + text + "'", -10 - kind, ways.land());
        tally.due("fault() of '" + text + "'", place, ways.fault());
        tally.due("told(0) behind '" + text + "'", 0, ways.told(0));
    }

    private static void fine(Tally tally, String text, int places) {
        ToldWays ways = fedWith(text);
        tally.due("land() of '" + text + "'", places, ways.land());
        tally.due("fault() of '" + text + "'", NONE, ways.fault());
    }

    /** The fault is at the sign behind the bar, which is left out. */
    private static void faultAtBar(Tally tally, int kind, String text) {
        int bar = text.indexOf('|');
        fault(tally, text.substring(0, bar) + text.substring(bar + 1), kind, bar);
    }

    private static String blanks(int n) {
        return " ".repeat(n);
    }

    // ---- promise 1

    private static void noPlaces(Tally tally) {
        tally.begin("promise 1: No PLACES");
        ToldWays ways = new ToldWays();
        tally.due("told(0)", 0, ways.told(0));
        tally.due("led(0, 0, false, 0)", UNKNOWN, ways.led(0, 0, false, 0));
        tally.due("led(0, 0, true, 9)", UNKNOWN, ways.led(0, 0, true, 9));
        tally.due("soonest(0, 0)", UNKNOWN, ways.soonest(0, 0));
        tally.due("guide(0, 0, -1)", UNKNOWN, ways.guide(0, 0, NONE));
        tally.due("missing(0, 0)", UNKNOWN, ways.missing(0, 0));
        tally.due("missing(0, -1)", UNKNOWN, ways.missing(0, -1));
        tally.due("lack(0, -1)", UNKNOWN, ways.lack(0, -1));
        tally.due("log(0, 0, 10, 0)", UNKNOWN, ways.log(0, 0, 10, 0));
        tally.due("drift(99, 1)", NOT, ways.drift(99, 1));
        tally.due("land()", 0, ways.land());
        tally.due("fault()", NONE, ways.fault());
    }

    // ---- promise 2

    private static void feedBounds(Tally tally) {
        tally.begin("promise 2: n is 1 .. 8");
        ToldWays ways = new ToldWays();
        for (int n : new int[] {0, 9, -1, -8, 16, 400, LEAST, MOST}) {
            tally.due("feed(" + n + ", 1)", OUTSIDE, ways.feed(n, 1));
        }
        tally.due("told(3)", 0, ways.told(3));
        int has = 0;
        for (int n = 1; n <= 8; n++) {
            has += n;
            tally.due("feed(" + n + ", 1)", has, ways.feed(n, 1));
        }
    }

    private static void feedBytes(Tally tally) {
        tally.begin("promise 2: the lowest n bytes, the highest of these first");
        // What stands above the lowest n bytes is left, the sign of the long, too.
        String text = "places 7;";
        for (int n = 1; n < 8; n++) {
            ToldWays ways = new ToldWays();
            for (int from = 0; from < text.length(); from += n) {
                String part = text.substring(from, Math.min(text.length(), from + n));
                ways.feed(part.length(), Fed.packed(part) | -1L << 8 * part.length());
            }
            tally.due("land() of parts of " + n, 7, ways.land());
        }
        ToldWays ways = new ToldWays();
        // 'places 1' is above 2 to the 62; bytes of 128 and more make a long that is less than 0.
        ways.feed(8, 0x706c616365732031L);
        ways.feed(8, 0x3b20202020202020L);
        tally.due("land()", 1, ways.land());
        ways.feed(8, Long.MIN_VALUE);
        tally.due("land(): a byte of 128", -11, ways.land());
        tally.due("fault()", 0, ways.fault());
        ways.feed(8, 0x2020202020202080L);
        tally.due("land(): a byte of 128 at last", -11, ways.land());
        tally.due("fault()", 7, ways.fault());
        ways.feed(8, 0x20202020202020a0L);
        tally.due("land(): a byte of 160, 32 in its lower bits", -11, ways.land());
        ways.feed(1, 0xffffffff20L);
        tally.due("land(): a blank", 0, ways.land());
    }

    private static void feedFull(Tally tally) {
        tally.begin("promise 2: FULL (400)");
        for (int n = 1; n <= 8; n++) {
            ToldWays ways = fedWith(blanks(400 - n));
            tally.due("feed(" + n + ") to 400", 400, ways.feed(n, 0x2020202020202020L));
            tally.due("feed(1) at 400", FULL, ways.feed(1, 32));
            ToldWays over = fedWith(blanks(401 - n));
            tally.due("feed(" + n + ") to 401", FULL, over.feed(n, 0x7878787878787878L));
            tally.due("told(3)", 401 - n, over.told(3));
            tally.due("land(): nothing of it came", 0, over.land());
            tally.due("feed(8) behind land()", 8, over.feed(8, 0));
        }
        ToldWays full = fedWith(blanks(400));
        for (int n : new int[] {0, 9, LEAST, MOST}) {
            tally.due("feed(" + n + ") at 400", OUTSIDE, full.feed(n, 32));
        }
    }

    // ---- promises 3 and 4

    private static void textOf400(Tally tally) {
        tally.begin("promise 3: 400 bytes at most");
        fine(tally, blanks(391) + "places 1;", 1);
        fine(tally, "places 1;" + blanks(391), 1);
        fault(tally, blanks(399) + "x", 1, 399);
        fault(tally, blanks(399) + ";", 1, 399);
        fault(tally, blanks(392) + "places 1", 1, 400);
        fault(tally, blanks(394) + "places", 1, 400);
        fault(tally, blanks(391) + "places 0;", 2, 398);
        fault(tally, "places 1;" + blanks(385) + "places", 3, 394);
        fault(tally, "x".repeat(400), 1, 0);
        fault(tally, "1".repeat(400), 1, 0);
        fault(tally, "places " + "1".repeat(393), 2, 7);
    }

    private static void emptyText(Tally tally) {
        tally.begin("promise 3: an empty text (or one of blanks alone) has no FAULT: no PLACES");
        fine(tally, "", 0);
        fine(tally, " ", 0);
        fine(tally, blanks(400), 0);
        ToldWays ways = Fed.landOf("places 2;way 0 1 5;person 0 0 0 whole knows 0;");
        tally.due("land() of nothing", 0, ways.land());
        for (int what = 0; what < 3; what++) {
            tally.due("told(" + what + ")", 0, ways.told(what));
        }
        tally.due("way(0, 0)", UNKNOWN, ways.way(0, 0));
        tally.due("person(0, 0)", UNKNOWN, ways.person(0, 0));
        tally.due("far(0, 0)", UNKNOWN, ways.far(0, 0));
        tally.due("drift(1, 0)", NOT, ways.drift(1, 0));
        // What was told once does not come back.
        Fed.text(ways, "places 2;");
        ways.land();
        tally.due("told(1)", 0, ways.told(1));
        tally.due("far(0, 1)", NONE, ways.far(0, 1));
        tally.due("person(0, 0)", UNKNOWN, ways.person(0, 0));
    }

    private static void placesBounds(Tally tally) {
        tally.begin("promise 3: 'places' N (1 .. 10; first, once)");
        for (int n = 1; n <= 10; n++) {
            fine(tally, "places " + n + ";", n);
        }
        faultAtBar(tally, 2, "places |0;");
        faultAtBar(tally, 2, "places |00;");
        faultAtBar(tally, 2, "places |11;");
        faultAtBar(tally, 2, "places |999;");
        faultAtBar(tally, 1, "|way 0 1 1;places 2;");
        faultAtBar(tally, 1, "|person 0 0 0 first;places 2;");
        faultAtBar(tally, 1, "|way");
        faultAtBar(tally, 3, "places 2;|places 2;");
        faultAtBar(tally, 3, "places 2;way 0 1 1;person 0 0 0 first;|places 0");
    }

    private static void wayBounds(Tally tally) {
        tally.begin("promise 3: 'way' A B M (two unlike PLACES; 1 .. 99 minutes)");
        fine(tally, "places 10;way 0 9 1;way 9 8 99;", 10);
        faultAtBar(tally, 2, "places 10;way |10 9 1;");
        faultAtBar(tally, 2, "places 10;way 9 |10 1;");
        faultAtBar(tally, 2, "places 1;way 0 |1 1;");
        faultAtBar(tally, 2, "places 2;way 0 1 |0;");
        faultAtBar(tally, 2, "places 2;way 0 1 |00;");
        faultAtBar(tally, 2, "places 2;way 0 1 |100;");
        faultAtBar(tally, 2, "places 2;way 0 1 |999;");
        faultAtBar(tally, 4, "places 10;way 9 |9 1;");
        faultAtBar(tally, 4, "places 1;way 0 |0 1;");
        faultAtBar(tally, 4, "places 10;way 09 |009 1;");
    }

    private static void wayOnce(Tally tally) {
        tally.begin("promise 3: each two once, either way round");
        faultAtBar(tally, 4, "places 3;way 0 1 1;way 0 |1 1;");
        faultAtBar(tally, 4, "places 3;way 0 1 1;way 1 |0 1;");
        faultAtBar(tally, 4, "places 3;way 2 1 1;way 1 |2 1;");
        faultAtBar(tally, 4, "places 3;way 0 1 1;way 1 2 1;way 0 2 1;way 2 |0 9;");
        fine(tally, "places 3;way 0 1 1;way 1 2 1;way 2 0 1;", 3);
        ToldWays ways = Fed.landOf("places 3;way 0 1 1;");
        // Told in another text it is not told again.
        Fed.text(ways, "places 3;way 1 0 1;");
        tally.due("land() anew", 3, ways.land());
    }

    /** Fourteen WAYS of ten PLACES. */
    private static String fullOfWays() {
        StringBuilder text = new StringBuilder("places 10;");
        for (int b = 1; b < 10; b++) {
            text.append("way 0 ").append(b).append(" 9;");
        }
        for (int a = 5; a < 10; a++) {
            text.append("way ").append(a).append(' ').append(a - 1).append(" 99;");
        }
        return text.toString();
    }

    private static void waysFull(Tally tally) {
        tally.begin("promise 3: 14 WAYS at most, a 15th WAY (at its first letter)");
        String text = fullOfWays();
        fine(tally, text, 10);
        faultAtBar(tally, 3, text + "|way 1 2 3;");
        faultAtBar(tally, 3, text + "  |way");
        // Also one that were a fault itself, behind its first letter.
        faultAtBar(tally, 3, text + "|way 0 0 0;");
        faultAtBar(tally, 3, text + "|way;");
        faultAtBar(tally, 1, text + "|waya 1 2 3;");
        fine(tally, text + "person 0 0 0 first knows 13;", 10);
    }

    private static void personBounds(Tally tally) {
        tally.begin("promise 3: 'person' P E G habit (worth 0 .. 99)");
        fine(tally, "places 10;person 9 0 0 silent;person 0 9 99 first;", 10);
        fine(tally, "places 1;person 0 0 000 errand;person 00 000 099 whole;", 1);
        faultAtBar(tally, 2, "places 10;person |10 0 0 first;");
        faultAtBar(tally, 2, "places 10;person 0 |10 0 first;");
        faultAtBar(tally, 2, "places 1;person |1 0 0 first;");
        faultAtBar(tally, 2, "places 10;person 0 0 |100 first;");
        faultAtBar(tally, 1, "places 10;person 0 0 0 |firs;");
        faultAtBar(tally, 1, "places 10;person 0 0 0 |firsts;");
        faultAtBar(tally, 1, "places 10;person 0 0 0 |knows 0;");
        faultAtBar(tally, 1, "places 10;person 0 0 0|;");
    }

    private static void personsFull(Tally tally) {
        tally.begin("promise 3: 6 PERSONS at most, a seventh PERSON (at its first letter)");
        String text = "places 2;way 0 1 7;" + "person 1 0 5 whole knows 0;".repeat(6);
        fine(tally, text, 2);
        faultAtBar(tally, 3, text + "|person 1 0 5 whole knows 0;");
        faultAtBar(tally, 3, text + " |person");
        faultAtBar(tally, 3, text + "|person 9 9 999 x;");
        faultAtBar(tally, 1, text + "|persona 1 0 5 whole;");
    }

    private static void knownBounds(Tally tally) {
        tally.begin("promise 3: WAYS that it KNOWS, unlike, told ahead");
        String land = "places 3;way 0 1 1;way 1 2 1;person 0 0 0 whole knows ";
        fine(tally, land + "0;", 3);
        fine(tally, land + "1,0;", 3);
        faultAtBar(tally, 2, land + "|2;");
        faultAtBar(tally, 2, land + "0,|2;");
        faultAtBar(tally, 2, land + "|2;way 2 0 1;");
        faultAtBar(tally, 2, land + "|14;");
        faultAtBar(tally, 2, "places 3;person 0 0 0 whole knows |0;");
        faultAtBar(tally, 4, land + "0,|0;");
        faultAtBar(tally, 4, land + "1,0, |1;");
        faultAtBar(tally, 4, land + "1,|01;");
        // Another PERSON may know it again.
        fine(tally, land + "0,1;person 0 0 0 whole knows 0,1;", 3);
        tally.due("person(0, 4) of none", 0, Fed.landOf("places 3;way 0 1 1;person 0 0 0 whole;").person(0, 4));
    }

    private static void figures(Tally tally) {
        tally.begin("promise 3: NUMBERS have one to three figures");
        fine(tally, "places 3;way 0 1 7;way 00 02 07;way 001 002 007;", 3);
        faultAtBar(tally, 2, "places |0003;");
        faultAtBar(tally, 2, "places |1000;");
        faultAtBar(tally, 2, "places |00000000000000000003;");
        faultAtBar(tally, 2, "places 3;way |0000 1 7;");
        faultAtBar(tally, 2, "places 3;way 0 |0001 7;");
        faultAtBar(tally, 2, "places 3;way 0 1 |0007;");
        faultAtBar(tally, 2, "places 3;person 0 0 |0000 first;");
        // Of 32 and 64 bits these were 2.
        faultAtBar(tally, 2, "places |4294967298;");
        faultAtBar(tally, 2, "places |18446744073709551618;");
        faultAtBar(tally, 1, "places |-1;");
        faultAtBar(tally, 1, "places |+1;");
        faultAtBar(tally, 1, "places 1|.0;");
    }

    private static void sideBySide(Tally tally) {
        tally.begin("promise 3: two words, two NUMBERS side by side need a blank");
        faultAtBar(tally, 1, "places 2;person 0 0 0 |firstknows 0;");
        faultAtBar(tally, 1, "|placesplaces 2;");
        // 01 is one NUMBER, so that there is no M; 0 15 is out of bounds at 15.
        faultAtBar(tally, 1, "places 6;way 01 5|;");
        faultAtBar(tally, 2, "places 6;way 0 |15;");
        fine(tally, "places2;way0 1 5;person0 1 5whole knows0;", 2);
        tally.begin("promise 3: blanks may stand anywhere but within words and NUMBERS");
        fine(tally, "   places   2   ;   way   0   1   5   ;   person   0   1   5   whole   knows   0   ;   ", 2);
        fine(tally, "places 3;way 0 1 5;way 1 2 5;person 0 1 5 whole knows 0  ,  1  ;", 3);
        faultAtBar(tally, 1, "|pla ces 2;");
        faultAtBar(tally, 1, "places 1 |0;");
        faultAtBar(tally, 1, "places 2;way 0 1 5 |5;");
        faultAtBar(tally, 1, "places 2;person 0 0 0 |fir st;");
        for (char sign : new char[] {0, 9, 10, 13, 31, 33, 160, 255}) {
            faultAtBar(tally, 1, "places 2;|" + sign);
            faultAtBar(tally, 1, "places|" + sign + "2;");
        }
    }

    private static void cannotStand(Tally tally) {
        tally.begin("promise 3: 1 it cannot stand there (a word that cannot: at its first letter)");
        faultAtBar(tally, 1, "|knows 0;");
        faultAtBar(tally, 1, "places 2;|silent;");
        faultAtBar(tally, 1, "places 2;|knows 0;");
        faultAtBar(tally, 1, "places 2;person 0 0 0 first |way;");
        faultAtBar(tally, 1, "places 2;person 0 0 0 first |whole;");
        faultAtBar(tally, 1, "places |places 2;");
        faultAtBar(tally, 1, "places 2 |way 0 1 1;");
        faultAtBar(tally, 1, "places 2;way |way 0 1;");
        faultAtBar(tally, 1, "places 2;way 0 |person 0;");
        faultAtBar(tally, 1, "places 2;|0 1 1;");
        faultAtBar(tally, 1, "places 2;|,");
        faultAtBar(tally, 1, "places 2;;".replace(";;", ";|;"));
        faultAtBar(tally, 1, "places 2;|PERSON 0 0 0 first;");
        faultAtBar(tally, 1, "places 2;|wAY 0 1 1;");
        faultAtBar(tally, 1, "places 2;|`");
        faultAtBar(tally, 1, "places 2;|{");
        faultAtBar(tally, 1, "places |/;");
        faultAtBar(tally, 1, "places |:;");
        // A letter beside the words' own ends the word: way and Z.
        faultAtBar(tally, 1, "places 2;way|Z 0 1 1;");
    }

    private static void atTheEnd(Tally tally) {
        tally.begin("promise 4: the end at the text's length");
        String text = "places 2;way 0 1 5;person 0 1 9 whole knows 0;";
        // Cut anywhere it ends a clause, or ends within one, or within a word, which cannot stand then.
        String[] cuts = {"places|", "places |", "places 2|", "places 2;way|", "places 2;way |", "places 2;way 0|", "places 2;way 0 1|",
            "places 2;way 0 1 5|", "places 2;way 0 1 5;person|", "places 2;way 0 1 5;person 0 1 9|", "places 2;way 0 1 5;person 0 1 9 whole|",
            "places 2;way 0 1 5;person 0 1 9 whole knows|", "places 2;way 0 1 5;person 0 1 9 whole knows 0|",
            "places 2;way 0 1 5;person 0 1 9 whole knows 0,|"};
        for (String cut : cuts) {
            faultAtBar(tally, 1, cut);
        }
        faultAtBar(tally, 1, "|place");
        faultAtBar(tally, 1, "places 2;|wa");
        faultAtBar(tally, 1, "places 2;way 0 1 5;person 0 1 9 |whol");
        faultAtBar(tally, 1, "places 2;way 0 1 5;person 0 1 9 whole |know");
        for (String whole : new String[] {"places 2;", "places 2;way 0 1 5;", text}) {
            fine(tally, whole, 2);
            fine(tally, whole + " ", 2);
        }
    }

    private static void leastFault(Tally tally) {
        tally.begin("promise 3: at the first byte that has one, of these the least");
        // 1 goes ahead of 2: a NUMBER of four figures where none can stand.
        faultAtBar(tally, 1, "|1000;");
        faultAtBar(tally, 1, "places 2;|1000;");
        faultAtBar(tally, 1, "places 2 |1000;");
        faultAtBar(tally, 1, "places 2;person 0 0 0 |1000;");
        // 2 goes ahead of 4: the same PLACE, the same WAY, in four figures.
        faultAtBar(tally, 2, "places 2;way 0 |0000 1;");
        faultAtBar(tally, 2, "places 2;way 0 1 1;way 1 |0000 1;");
        faultAtBar(tally, 2, "places 2;way 0 1 1;person 0 0 0 first knows 0,|0000;");
    }

    private static void firstFault(Tally tally) {
        tally.begin("promise 4: the first byte that has a FAULT");
        faultAtBar(tally, 2, "places |0;way 0 0 0;x");
        faultAtBar(tally, 2, "places 2;way |2 2 100;places");
        faultAtBar(tally, 4, "places 2;way 1 |1 100;places");
        faultAtBar(tally, 2, "places 2;way 0 1 |100 x");
        faultAtBar(tally, 2, "places 2;person |2 2 100 x knows 9");
        faultAtBar(tally, 2, "places 2;person 0 |2 100 x knows 9");
        faultAtBar(tally, 2, "places 2;person 0 0 |100 x knows 9");
        faultAtBar(tally, 1, "places 2;person 0 0 0 |x knows 9");
        faultAtBar(tally, 2, "places 2;person 0 0 0 first knows |9,9 places");
        faultAtBar(tally, 3, "places 2;|places 1000 way");
        faultAtBar(tally, 1, "places 2|,places 1000 way");
    }

    private static void faultOfTheLatest(Tally tally) {
        tally.begin("promise 4: the FAULT of the latest land(); NONE");
        ToldWays ways = new ToldWays();
        tally.due("fault() ahead of all", NONE, ways.fault());
        Fed.text(ways, "x");
        tally.due("fault() ahead of land()", NONE, ways.fault());
        tally.due("land()", -11, ways.land());
        tally.due("fault()", 0, ways.fault());
        Fed.text(ways, "places 3;;");
        tally.due("fault() while it is fed", 0, ways.fault());
        ways.feed(9, 0);
        ways.law(9);
        tally.due("fault() behind refusals", 0, ways.fault());
        tally.due("land()", -11, ways.land());
        tally.due("fault()", 9, ways.fault());
        Fed.text(ways, "places 3;");
        tally.due("land()", 3, ways.land());
        tally.due("fault()", NONE, ways.fault());
        Fed.text(ways, "y");
        ways.land();
        ways.keep(0);
        ways.goBack(0);
        tally.due("fault(): an IMAGE has none", 0, ways.fault());
    }

    private static void faultLeavesAll(Tally tally) {
        tally.begin("promise 3: with a FAULT all else is as it was, but THE TEXT is empty");
        for (String text : new String[] {"x", "places 0;", "places 9;places 9;", "places 9;way 0 1 5;way 1 0 5;", "places 9;way 0 8 7;person 0 8 7 silent;?"}) {
            ToldWays ways = Fed.landOf("places 3;way 0 1 5;way 1 2 6;person 0 2 33 whole knows 0,1;");
            ways.law(3);
            ways.keep(1);
            ways.log(0, 2, 2, 1);
            ways.lack(0, 5);
            Fed.text(ways, text);
            tally.holds("land() of '" + text + "' is a FAULT", ways.land() < -10);
            tally.due("told(3)", 0, ways.told(3));
            int[] due = {3, 2, 1, 0, 3, 1, 1};
            for (int what = 0; what < due.length; what++) {
                tally.due("told(" + what + ")", due[what], ways.told(what));
            }
            tally.due("way(0, 1)", 1, ways.way(0, 1));
            tally.due("way(0, 2)", 5, ways.way(0, 2));
            tally.due("person(0, 2)", 33, ways.person(0, 2));
            tally.due("person(0, 4)", 3, ways.person(0, 4));
            tally.due("route(0, 0, 2, -2)", 11, ways.route(0, 0, 2, -2));
            tally.due("judge()", NONE, ways.judge());
            tally.due("fits()", 1, ways.fits());
            tally.due("goBack(0)", NOT, ways.goBack(0));
            tally.due("goBack(1)", 1, ways.goBack(1));
            tally.due("land() of the text that is empty now", 0, ways.land());
            tally.due("told(0)", 0, ways.told(0));
        }
    }

    private static void landLeaves(Tally tally) {
        tally.begin("promise 3: LAW, THE SEED stay; no LOG, nobody MISSING; IMAGES are gone");
        for (String text : new String[] {"", "places 3;way 0 1 5;person 0 1 9 whole knows 0;"}) {
            ToldWays ways = Fed.landOf("places 3;way 0 1 5;person 0 1 9 whole knows 0;");
            ways.law(2);
            ways.seed(4711);
            ways.keep(0);
            ways.keep(1);
            for (int i = 0; i < 30; i++) {
                ways.log(0, 1, 1, 2);
                ways.lack(0, 999);
            }
            ways.learn(0, 0, false);
            ways.habit(0, 0);
            Fed.text(ways, text);
            tally.due("land() of '" + text + "'", text.isEmpty() ? 0 : 3, ways.land());
            tally.due("told(4)", 2, ways.told(4));
            tally.due("told(5)", 0, ways.told(5));
            tally.due("told(6)", 0, ways.told(6));
            tally.due("judge()", NONE, ways.judge());
            tally.due("fits()", 1, ways.fits());
            tally.due("clear()", 0, ways.clear());
            tally.due("goBack(0)", NOT, ways.goBack(0));
            tally.due("goBack(1)", NOT, ways.goBack(1));
            tally.due("seed(0)", 4711, ways.seed(0));
            // What was learnt and the habit are as they are told now.
            tally.due("person(0, 4)", text.isEmpty() ? UNKNOWN : 1, ways.person(0, 4));
            tally.due("person(0, 3)", text.isEmpty() ? UNKNOWN : 3, ways.person(0, 3));
        }
    }

    // ---- promises 5 to 11

    private static void toldFullest(Tally tally) {
        tally.begin("promise 5: how many, when all is full");
        ToldWays ways = Fed.landOf(fullOfWays() + "person 0 4 9 first knows 3;".repeat(6));
        ways.law(3);
        Fed.text(ways, blanks(400));
        for (int i = 0; i < 40; i++) {
            ways.log(0, 1, 0, 0);
            ways.lack(0, 9);
        }
        int[] due = {10, 14, 6, 400, 3, 30, 8};
        for (int what = 0; what < due.length; what++) {
            tally.due("told(" + what + ")", due[what], ways.told(what));
        }
        for (int what : new int[] {-1, 7, LEAST, MOST}) {
            tally.due("told(" + what + ")", OUTSIDE, ways.told(what));
            tally.due("of no PLACES told(" + what + ")", OUTSIDE, new ToldWays().told(what));
        }
    }

    private static void members(Tally tally) {
        tally.begin("promises 6, 7: the last WAY, the last PERSON");
        ToldWays ways = Fed.landOf(fullOfWays() + "person 0 4 9 first;".repeat(5) + "person 9 8 99 whole knows 13,12,11,10,9,8,7,6,5,4,3,2,1,0;");
        int[] way = {9, 8, 99};
        for (int what = 0; what < 3; what++) {
            tally.due("way(13, " + what + ")", way[what], ways.way(13, what));
        }
        int[] person = {9, 8, 99, 3, 16383};
        for (int what = 0; what < 5; what++) {
            tally.due("person(5, " + what + ")", person[what], ways.person(5, what));
            tally.due("person(6, " + what + ")", UNKNOWN, ways.person(6, what));
        }
        tally.due("way(14, 0)", UNKNOWN, ways.way(14, 0));
        tally.due("way(13, 3)", OUTSIDE, ways.way(13, 3));
        tally.due("way(14, 3)", UNKNOWN, ways.way(14, 3));
        tally.due("person(5, 5)", OUTSIDE, ways.person(5, 5));
        tally.due("person(6, 5)", UNKNOWN, ways.person(6, 5));
    }

    private static void farthest(Tally tally) {
        tally.begin("promise 8: FAR, by all WAYS");
        StringBuilder chain = new StringBuilder("places 10;");
        for (int a = 9; a > 0; a--) {
            chain.append("way " + a + " " + (a - 1) + " 99;");
        }
        // Known to nobody; far(9, 0) needs each WAY.
        ToldWays ways = Fed.landOf(chain + "person 0 0 0 whole;");
        tally.due("far(0, 9)", 891, ways.far(0, 9));
        tally.due("far(9, 0)", 891, ways.far(9, 0));
        for (int a = 0; a < 10; a++) {
            tally.due("far(" + a + ", " + a + ")", 0, ways.far(a, a));
        }
        tally.due("far(9, 10)", UNKNOWN, ways.far(9, 10));
        ToldWays none = Fed.landOf("places 10;");
        tally.due("far(0, 9) without WAYS", NONE, none.far(0, 9));
        tally.due("far(9, 9) without WAYS", 0, none.far(9, 9));
    }

    private static void laws(Tally tally) {
        tally.begin("promise 9: v is 0 .. 3; what it was");
        ToldWays ways = new ToldWays();
        int was = 0;
        for (int v : new int[] {0, 1, 2, 3, 3, 0}) {
            for (int wrong : new int[] {-1, 4, LEAST, MOST}) {
                tally.due("law(" + wrong + ")", OUTSIDE, ways.law(wrong));
            }
            tally.due("law(" + v + ")", was, ways.law(v));
            tally.due("told(4)", v, ways.told(4));
            was = v;
        }
    }

    private static void learning(Tally tally) {
        tally.begin("promise 10: what it was (1, 0)");
        ToldWays ways = Fed.landOf(fullOfWays() + "person 0 4 9 first;".repeat(6));
        for (int w = 0; w < 14; w++) {
            tally.due("learn(5, " + w + ", false)", 0, ways.learn(5, w, false));
            tally.due("learn(5, " + w + ", true)", 0, ways.learn(5, w, true));
            tally.due("learn(5, " + w + ", true)", 1, ways.learn(5, w, true));
        }
        tally.due("person(5, 4)", 16383, ways.person(5, 4));
        tally.due("person(4, 4)", 0, ways.person(4, 4));
        tally.due("learn(5, 14, true)", UNKNOWN, ways.learn(5, 14, true));
        tally.due("learn(6, 13, true)", UNKNOWN, ways.learn(6, 13, true));
        // Bits of 32 and 46 were those of 0 and 14.
        tally.due("learn(4, 32, true)", UNKNOWN, ways.learn(4, 32, true));
        tally.due("person(4, 4)", 0, ways.person(4, 4));
        tally.due("learn(5, 13, false)", 1, ways.learn(5, 13, false));
        tally.due("learn(5, 0, false)", 1, ways.learn(5, 0, false));
        tally.due("person(5, 4)", 8190, ways.person(5, 4));
    }

    private static void habits(Tally tally) {
        tally.begin("promise 11: v is 0 .. 3; what it was");
        ToldWays ways = Fed.landOf("places 2;" + "person 0 1 9 whole;".repeat(6));
        int was = 3;
        for (int v : new int[] {0, 1, 2, 3, 3, 0}) {
            for (int wrong : new int[] {-1, 4, LEAST, MOST}) {
                tally.due("habit(5, " + wrong + ")", OUTSIDE, ways.habit(5, wrong));
                tally.due("habit(6, " + wrong + ")", UNKNOWN, ways.habit(6, wrong));
            }
            tally.due("habit(5, " + v + ")", was, ways.habit(5, v));
            tally.due("person(5, 3)", v, ways.person(5, 3));
            tally.due("person(4, 3)", 3, ways.person(4, 3));
            was = v;
        }
        tally.due("habit(6, 0)", UNKNOWN, ways.habit(6, 0));
        tally.due("habit(-1, 0)", UNKNOWN, ways.habit(-1, 0));
    }
}
