/** What is refused changes nothing; of several refusals the first in the order of the document is answered. */
final class RefusalTests {
    private static final int UNKNOWN = -1000000001, OUTSIDE = -1000000002, NOT = -1000000003, FULL = -1000000004;
    private static final int LEAST = Integer.MIN_VALUE, MOST = Integer.MAX_VALUE;

    private final Tally tally;

    private RefusalTests(Tally tally) {
        this.tally = tally;
    }

    static void run(Tally tally) {
        RefusalTests tests = new RefusalTests(tally);
        tally.begin("REFUSALS change nothing, of the land");
        tests.land();
        tally.begin("REFUSALS change nothing, of routes and answers");
        tests.routes();
        tally.begin("REFUSALS change nothing, of strangers");
        tests.strangers();
        tally.begin("REFUSALS change nothing, of who said what");
        tests.journal();
        tally.begin("REFUSALS change nothing, of draws and images");
        tests.images();
        tally.begin("REFUSALS without PLACES");
        tests.withoutPlaces();
    }

    /** A call of ToldWays. */
    private interface Call {
        int on(ToldWays ways);
    }

    /** Four PLACES, three WAYS, two PERSONS; THE LOG, those MISSING, THE TEXT are full, IMAGE 1 is kept. */
    private static ToldWays full() {
        ToldWays ways = Fed.landOf("places 4;way 0 1 5;way 1 2 6;way 0 2 9;person 0 2 20 whole knows 0,1;person 1 0 9 silent knows 0;");
        ways.law(2);
        ways.seed(1234567);
        ways.keep(1);
        ways.law(1);
        ways.seed(7654321);
        ways.learn(1, 1, true);
        ways.habit(1, 2);
        for (int i = 0; i < 29; i++) {
            ways.log(0, 2, 2, 1);
        }
        ways.log(0, 2, 1, 2);
        for (int i = 0; i < 8; i++) {
            ways.lack(0, 5);
        }
        Fed.text(ways, " ".repeat(390) + "places 3;x");
        return ways;
    }

    /** What can be seen of it; some of it is spent by that. Less than 300 calls. */
    private void same(String name, ToldWays due, ToldWays got) {
        String call = "behind " + name + ": ";
        tally.due(call + "fault()", due.fault(), got.fault());
        seen(call, due, got);
        tally.due(call + "judge()", due.judge(), got.judge());
        tally.due(call + "fits()", due.fits(), got.fits());
        tally.due(call + "drift(9, 1)", due.drift(9, 1), got.drift(9, 1));
        tally.due(call + "seed(3)", due.seed(3), got.seed(3));
        tally.due(call + "goBack(0)", due.goBack(0), got.goBack(0));
        tally.due(call + "goBack(1)", due.goBack(1), got.goBack(1));
        tally.due(call + "seed(3)", due.seed(3), got.seed(3));
        seen(call, due, got);
        tally.due(call + "judge()", due.judge(), got.judge());
        tally.due(call + "fits()", due.fits(), got.fits());
        tally.due(call + "clear()", due.clear(), got.clear());
        tally.due(call + "land()", due.land(), got.land());
        tally.due(call + "fault()", due.fault(), got.fault());
        tally.due(call + "told(0)", due.told(0), got.told(0));
    }

    private void seen(String call, ToldWays due, ToldWays got) {
        for (int what = 0; what < 7; what++) {
            tally.due(call + "told(" + what + ")", due.told(what), got.told(what));
        }
        for (int w = 0; w < 3; w++) {
            for (int what = 0; what < 3; what++) {
                tally.due(call + "way(" + w + ", " + what + ")", due.way(w, what), got.way(w, what));
            }
        }
        for (int p = 0; p < 2; p++) {
            for (int what = 0; what < 5; what++) {
                tally.due(call + "person(" + p + ", " + what + ")", due.person(p, what), got.person(p, what));
            }
        }
        for (int t = 0; t < 3; t++) {
            tally.due(call + "far(0, " + t + ")", due.far(0, t), got.far(0, t));
            tally.due(call + "soonest(0, " + t + ")", due.soonest(0, t), got.soonest(0, t));
            tally.due(call + "route(0, 0, " + t + ", -2)", due.route(0, 0, t, -2), got.route(0, 0, t, -2));
            tally.due(call + "says(1, 1, " + t + ", 4)", due.says(1, 1, t, 4), got.says(1, 1, t, 4));
        }
    }

    private void refused(String name, int due, Call call) {
        ToldWays ways = full();
        tally.due(name, due, call.on(ways));
        tally.due(name + " again", due, call.on(ways));
        same(name, full(), ways);
    }

    private void land() {
        for (int wrong : new int[] {LEAST, -1, 0, 9, MOST}) {
            refused("feed(" + wrong + "), FULL, too", OUTSIDE, x -> x.feed(wrong, -1));
        }
        refused("feed(1)", FULL, x -> x.feed(1, 59));
        refused("feed(8)", FULL, x -> x.feed(8, 59));
        for (int wrong : new int[] {LEAST, -1, 7, MOST}) {
            refused("told(" + wrong + ")", OUTSIDE, x -> x.told(wrong));
            refused("way(2, " + wrong + ")", OUTSIDE, x -> x.way(2, wrong));
            refused("way(" + wrong + ", 0)", UNKNOWN, x -> x.way(wrong, 0));
            refused("way(" + wrong + ", 3)", UNKNOWN, x -> x.way(wrong, 3));
            refused("person(1, " + wrong + ")", OUTSIDE, x -> x.person(1, wrong));
            refused("person(" + wrong + ", 0)", UNKNOWN, x -> x.person(wrong, 0));
            refused("person(" + wrong + ", 5)", UNKNOWN, x -> x.person(wrong, 5));
            refused("far(" + wrong + ", 0)", UNKNOWN, x -> x.far(wrong, 0));
            refused("far(0, " + wrong + ")", UNKNOWN, x -> x.far(0, wrong));
            refused("law(" + wrong + ")", OUTSIDE, x -> x.law(wrong));
            refused("learn(" + wrong + ", 2, true)", UNKNOWN, x -> x.learn(wrong, 2, true));
            refused("learn(0, " + wrong + ", true)", UNKNOWN, x -> x.learn(0, wrong, true));
            refused("learn(0, " + wrong + ", false)", UNKNOWN, x -> x.learn(0, wrong, false));
            refused("habit(0, " + wrong + ")", OUTSIDE, x -> x.habit(0, wrong));
            refused("habit(" + wrong + ", 0)", UNKNOWN, x -> x.habit(wrong, 0));
            refused("habit(" + wrong + ", 4)", UNKNOWN, x -> x.habit(wrong, 4));
        }
        refused("law(4)", OUTSIDE, x -> x.law(4));
        refused("habit(0, 4)", OUTSIDE, x -> x.habit(0, 4));
        refused("habit(2, 4)", UNKNOWN, x -> x.habit(2, 4));
        refused("way(2, 3)", OUTSIDE, x -> x.way(2, 3));
        refused("way(3, 0)", UNKNOWN, x -> x.way(3, 0));
        refused("person(1, 5)", OUTSIDE, x -> x.person(1, 5));
        refused("person(2, 0)", UNKNOWN, x -> x.person(2, 0));
        refused("learn(2, 0, true)", UNKNOWN, x -> x.learn(2, 0, true));
        refused("learn(1, 3, true)", UNKNOWN, x -> x.learn(1, 3, true));
        refused("far(4, 0)", UNKNOWN, x -> x.far(4, 0));
    }

    private void routes() {
        for (int wrong : new int[] {LEAST, -1, 4, MOST}) {
            refused("route(" + wrong + ", 0, 2, 0)", UNKNOWN, x -> x.route(wrong, 0, 2, 0));
            refused("route(0, " + wrong + ", 2, 0)", UNKNOWN, x -> x.route(0, wrong, 2, 0));
            refused("route(0, 0, " + wrong + ", 0)", UNKNOWN, x -> x.route(0, 0, wrong, 0));
            refused("says(" + wrong + ", 0, 2, 5)", UNKNOWN, x -> x.says(wrong, 0, 2, 5));
            refused("says(0, " + wrong + ", 2, 0)", UNKNOWN, x -> x.says(0, wrong, 2, 0));
            refused("says(0, 0, " + wrong + ", -1)", UNKNOWN, x -> x.says(0, 0, wrong, -1));
            refused("own(" + wrong + ", 0, 2, 2)", UNKNOWN, x -> x.own(wrong, 0, 2, 2));
            refused("own(0, " + wrong + ", 2, 0)", UNKNOWN, x -> x.own(0, wrong, 2, 0));
            refused("own(0, 0, " + wrong + ", -1)", UNKNOWN, x -> x.own(0, 0, wrong, -1));
        }
        for (int wrong : new int[] {LEAST, -1, 5, MOST}) {
            refused("says(0, 0, 2, " + wrong + ")", OUTSIDE, x -> x.says(0, 0, 2, wrong));
            refused("own(0, 0, 2, " + wrong + ")", OUTSIDE, x -> x.own(0, 0, 2, wrong));
        }
        refused("own(0, 0, 2, 2)", OUTSIDE, x -> x.own(0, 0, 2, 2));
        // At t, and without a ROUTE, too.
        refused("says(0, 0, 0, 5)", OUTSIDE, x -> x.says(0, 0, 0, 5));
        refused("says(0, 0, 3, 5)", OUTSIDE, x -> x.says(0, 0, 3, 5));
        refused("own(0, 0, 0, 2)", OUTSIDE, x -> x.own(0, 0, 0, 2));
        refused("own(0, 0, 3, 2)", OUTSIDE, x -> x.own(0, 0, 3, 2));
    }

    private void strangers() {
        for (int wrong : new int[] {LEAST, -1, 4, MOST}) {
            refused("led(" + wrong + ", 0, true, 4)", UNKNOWN, x -> x.led(wrong, 0, true, 4));
            refused("led(0, " + wrong + ", false, 0)", UNKNOWN, x -> x.led(0, wrong, false, 0));
            refused("soonest(" + wrong + ", 0)", UNKNOWN, x -> x.soonest(wrong, 0));
            refused("soonest(0, " + wrong + ")", UNKNOWN, x -> x.soonest(0, wrong));
            refused("guide(" + wrong + ", 0, -1)", UNKNOWN, x -> x.guide(wrong, 0, -1));
            refused("guide(0, " + wrong + ", -2)", UNKNOWN, x -> x.guide(0, wrong, -2));
            refused("lot(" + wrong + ", 0, 3)", UNKNOWN, x -> x.lot(wrong, 0, 3));
            refused("lot(0, " + wrong + ", 0)", UNKNOWN, x -> x.lot(0, wrong, 0));
            refused("say(" + wrong + ", 0, 3)", UNKNOWN, x -> x.say(wrong, 0, 3));
            refused("say(0, " + wrong + ", 0)", UNKNOWN, x -> x.say(0, wrong, 0));
            refused("learnt(" + wrong + ", 0, -1, 5)", UNKNOWN, x -> x.learnt(wrong, 0, -1, 5));
            refused("learnt(0, " + wrong + ", 9, 0)", UNKNOWN, x -> x.learnt(0, wrong, 9, 0));
        }
        for (int wrong : new int[] {LEAST, -1, 5, MOST}) {
            refused("led(0, 2, true, " + wrong + ")", OUTSIDE, x -> x.led(0, 2, true, wrong));
            refused("led(0, 2, false, " + wrong + ")", OUTSIDE, x -> x.led(0, 2, false, wrong));
            refused("lot(0, 2, " + wrong + ")", OUTSIDE, x -> x.lot(0, 2, wrong));
            refused("say(0, 2, " + wrong + ")", OUTSIDE, x -> x.say(0, 2, wrong));
            refused("learnt(0, 2, 9, " + wrong + ")", OUTSIDE, x -> x.learnt(0, 2, 9, wrong));
        }
        for (int wrong : new int[] {LEAST, -1, 1000, MOST}) {
            refused("learnt(0, 2, " + wrong + ", 0)", OUTSIDE, x -> x.learnt(0, 2, wrong, 0));
            refused("learnt(0, 3, " + wrong + ", 5)", OUTSIDE, x -> x.learnt(0, 3, wrong, 5));
        }
        refused("led(0, 0, true, 4)", OUTSIDE, x -> x.led(0, 0, true, 4));
        refused("lot(0, 3, 3)", OUTSIDE, x -> x.lot(0, 3, 3));
        refused("say(0, 0, 3)", OUTSIDE, x -> x.say(0, 0, 3));
    }

    private void journal() {
        for (int wrong : new int[] {LEAST, -1, 4, MOST}) {
            refused("missing(" + wrong + ", -1)", UNKNOWN, x -> x.missing(wrong, -1));
            refused("lack(" + wrong + ", 1000), FULL, too", UNKNOWN, x -> x.lack(wrong, 1000));
            refused("log(" + wrong + ", 0, 10, 0), FULL, too", UNKNOWN, x -> x.log(wrong, 0, 10, 0));
            refused("log(0, " + wrong + ", 0, 0), FULL, too", UNKNOWN, x -> x.log(0, wrong, 0, 0));
            refused("log(0, 0, -1, " + wrong + "), FULL, too", UNKNOWN, x -> x.log(0, 0, -1, wrong));
        }
        for (int wrong : new int[] {LEAST, -1, 1000, MOST}) {
            refused("missing(0, " + wrong + ")", OUTSIDE, x -> x.missing(0, wrong));
            refused("lack(0, " + wrong + "), FULL, too", OUTSIDE, x -> x.lack(0, wrong));
            refused("log(0, 0, " + wrong + ", 0), FULL, too", OUTSIDE, x -> x.log(0, 0, wrong, 0));
        }
        refused("log(0, 0, 10, 0), FULL, too", OUTSIDE, x -> x.log(0, 0, 10, 0));
        refused("lack(0, 0)", FULL, x -> x.lack(0, 0));
        refused("lack(1, 999)", FULL, x -> x.lack(1, 999));
        refused("log(0, 2, 0, 3)", FULL, x -> x.log(0, 2, 0, 3));
        refused("log(1, 0, 9, 0)", FULL, x -> x.log(1, 0, 9, 0));
    }

    private void images() {
        for (int wrong : new int[] {LEAST, -1, 100, MOST}) {
            refused("drift(" + wrong + ", 0)", OUTSIDE, x -> x.drift(wrong, 0));
            refused("drift(" + wrong + ", 2)", OUTSIDE, x -> x.drift(wrong, 2));
            refused("drift(9, " + wrong + ")", OUTSIDE, x -> x.drift(9, wrong));
            refused("keep(" + wrong + ")", UNKNOWN, x -> x.keep(wrong));
            refused("goBack(" + wrong + ")", UNKNOWN, x -> x.goBack(wrong));
        }
        refused("drift(0, 0)", OUTSIDE, x -> x.drift(0, 0));
        refused("drift(1, 2)", OUTSIDE, x -> x.drift(1, 2));
        refused("seed(-1)", OUTSIDE, x -> x.seed(-1));
        refused("seed(" + LEAST + ")", OUTSIDE, x -> x.seed(LEAST));
        refused("keep(2)", UNKNOWN, x -> x.keep(2));
        refused("goBack(2)", UNKNOWN, x -> x.goBack(2));
        refused("goBack(0)", NOT, x -> x.goBack(0));
    }

    private void withoutPlaces() {
        ToldWays ways = new ToldWays();
        ways.seed(5);
        tally.due("drift(0, 0): OUTSIDE ahead of NOT", OUTSIDE, ways.drift(0, 0));
        tally.due("drift(1, 2): OUTSIDE ahead of NOT", OUTSIDE, ways.drift(1, 2));
        tally.due("drift(1, 1)", NOT, ways.drift(1, 1));
        tally.due("goBack(2): UNKNOWN ahead of NOT", UNKNOWN, ways.goBack(2));
        tally.due("goBack(0)", NOT, ways.goBack(0));
        tally.due("habit(0, 4): UNKNOWN ahead of OUTSIDE", UNKNOWN, ways.habit(0, 4));
        tally.due("way(0, 3): UNKNOWN ahead of OUTSIDE", UNKNOWN, ways.way(0, 3));
        tally.due("person(0, 5): UNKNOWN ahead of OUTSIDE", UNKNOWN, ways.person(0, 5));
        tally.due("says(0, 0, 0, 5): UNKNOWN ahead of OUTSIDE", UNKNOWN, ways.says(0, 0, 0, 5));
        tally.due("own(0, 0, 0, 2): UNKNOWN ahead of OUTSIDE", UNKNOWN, ways.own(0, 0, 0, 2));
        tally.due("learnt(0, 0, 1000, 5): UNKNOWN ahead of OUTSIDE", UNKNOWN, ways.learnt(0, 0, 1000, 5));
        tally.due("missing(0, 1000): UNKNOWN ahead of OUTSIDE", UNKNOWN, ways.missing(0, 1000));
        tally.due("route(0, 0, 0, -1)", UNKNOWN, ways.route(0, 0, 0, -1));
        tally.due("nothing was drawn", 5, ways.seed(0));
        for (int what = 0; what < 7; what++) {
            tally.due("told(" + what + ")", 0, ways.told(what));
        }
    }
}
