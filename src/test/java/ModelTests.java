import java.util.Random;

/** Random calls, asked of ToldWays and of the Model; the numbers of the runs are fixed, so that each can be had again. */
final class ModelTests {
    private static final int RUNS = 1200, CALLS = 220, TEXTS = 6000;
    private static final int[] WRONG = {-1, -2, -3, 10, 14, 99, 1000, Integer.MAX_VALUE, Integer.MIN_VALUE};

    private final Tally tally;
    private final Random random;
    private final ToldWays ways = new ToldWays();
    private final Model model = new Model();

    private ModelTests(Tally tally, long number) {
        this.tally = tally;
        random = new Random(number);
    }

    static void run(Tally tally) {
        for (int i = 0; i < RUNS; i++) {
            tally.begin("random run " + i);
            new ModelTests(tally, i).calls();
        }
        for (int i = 0; i < TEXTS; i++) {
            tally.begin("random text " + i);
            ModelTests tests = new ModelTests(tally, 1000000L + i);
            tests.tell(tests.spoilt(tests.text()));
            tests.tell(tests.spoilt(tests.spoilt(tests.text())));
        }
    }

    private void calls() {
        tell(text());
        int told = 1;
        for (int i = 0; i < CALLS; i++) {
            if (told < 4 && random.nextInt(90) == 0) {
                told++;
                tell(random.nextInt(3) == 0 ? spoilt(text()) : text());
            }
            call();
        }
    }

    // ---- texts

    private String blanks() {
        return random.nextInt(12) == 0 ? "  " : random.nextInt(12) == 0 ? " " : "";
    }

    private String text() {
        int places = random.nextInt(5) == 0 ? 1 + random.nextInt(10) : 3 + random.nextInt(5);
        int ways = random.nextInt(5) == 0 ? random.nextInt(15) : Math.min(14, 2 + random.nextInt(2 * places));
        int persons = random.nextInt(7);
        int far = random.nextBoolean() ? 4 : 30;
        StringBuilder text = new StringBuilder("places" + blanks() + places + blanks() + ";");
        boolean[] joined = new boolean[100];
        int told = 0, peopled = 0;
        for (int i = 0; i < 40; i++) {
            if (told < ways && (peopled == persons || random.nextInt(6) > 0)) {
                int a = random.nextInt(places), b = random.nextInt(places);
                if (a != b && !joined[a * 10 + b]) {
                    joined[a * 10 + b] = joined[b * 10 + a] = true;
                    text.append("way" + blanks() + a + " " + b + " " + (1 + random.nextInt(far)) + blanks() + ";" + blanks());
                    told++;
                }
            } else if (peopled < persons) {
                String clause = person(places, told);
                if (text.length() + clause.length() <= 400) {
                    text.append(clause);
                }
                peopled++;
            }
        }
        return text.length() > 400 ? "places 3;" : text.toString();
    }

    private String person(int places, int ways) {
        // Many at a few PLACES, so that there is a choice of who leads.
        int home = random.nextInt(random.nextBoolean() ? places : Math.min(2, places));
        String[] habits = {"silent", "first", "errand", "whole", "whole", "first"};
        StringBuilder text = new StringBuilder("person" + blanks() + home + " " + random.nextInt(places) + " " + random.nextInt(100));
        text.append(blanks() + habits[random.nextInt(6)]);
        int odds = 1 + random.nextInt(4);
        String before = " knows" + blanks();
        for (int w = 0; w < ways; w++) {
            if (random.nextInt(4) < odds) {
                text.append(before).append(blanks()).append(w);
                before = blanks() + ",";
            }
        }
        return text + ";";
    }

    private static final String[] PARTS = {";", ",", " ", "0", "7", "10", "99", "100", "1234", "a", "way", "person", "places", "knows",
        "silent", "first", "errand", "whole", "\u00ff", "\u0000", "A", "\t", "way 0 1 1;", "person 0 0 0 whole;", "places 2;", "{", "`", "/", ":"};

    /** One part more, one byte less, or another one. */
    private String spoilt(String text) {
        int at = random.nextInt(text.length() + 1);
        String part = PARTS[random.nextInt(PARTS.length)];
        String much;
        switch (random.nextInt(5)) {
            case 0: much = text.substring(0, at); break;
            case 1: much = text.substring(0, at) + part + text.substring(at); break;
            case 2: much = text.substring(0, at) + text.substring(Math.min(text.length(), at + 1)); break;
            case 3: much = text.substring(0, at) + part + text.substring(Math.min(text.length(), at + part.length())); break;
            default: much = swapped(text, at);
        }
        return much.length() > 400 ? much.substring(0, 400) : much;
    }

    /** One figure becomes another. */
    private String swapped(String text, int from) {
        for (int i = from; i < text.length(); i++) {
            if (Character.isDigit(text.charAt(i))) {
                return text.substring(0, i) + random.nextInt(10) + text.substring(i + 1);
            }
        }
        return text + "way 0 1 1;";
    }

    private void tell(String text) {
        for (int from = 0; from < text.length();) {
            int n = Math.min(1 + random.nextInt(8), text.length() - from);
            long bytes = Fed.packed(text.substring(from, from + n)) | (n < 8 ? random.nextLong() << 8 * n : 0);
            tally.due("feed(" + n + ", " + bytes + ")", model.feed(n, bytes), ways.feed(n, bytes));
            from += n;
        }
        tally.due("land() of '" + text + "'", model.land(), ways.land());
        tally.due("fault() of '" + text + "'", model.fault(), ways.fault());
        all();
    }

    private void all() {
        for (int i = -1; i <= 7; i++) {
            tally.due("told(" + i + ")", model.told(i), ways.told(i));
        }
        for (int p = 0; p < 6; p++) {
            for (int what = 0; what < 5; what++) {
                tally.due("person(" + p + ", " + what + ")", model.person(p, what), ways.person(p, what));
            }
        }
    }

    // ---- calls

    private int some(int bound) {
        return random.nextInt(40) == 0 ? WRONG[random.nextInt(WRONG.length)] : random.nextInt(Math.max(1, bound));
    }

    private int place() {
        return some(model.told(0));
    }

    private int wayNumber() {
        return some(model.told(1));
    }

    private int person() {
        return some(model.told(2));
    }

    private void call() {
        int kind = random.nextInt(34);
        int a = place(), b = place(), p = person(), i = some(6) - 2;
        boolean is = random.nextBoolean();
        switch (kind) {
            case 0: pair("far", a, b); break;
            case 1: law(some(4)); break;
            case 2:
            case 3: learn(p, wayNumber(), is); break;
            case 4: habit(p, some(4)); break;
            case 5:
            case 6: tally.due("route(" + p + ", " + a + ", " + b + ", " + i + ")", model.route(p, a, b, i), ways.route(p, a, b, i)); break;
            case 7:
            case 8: says(p, a, b, some(5)); break;
            case 9:
            case 10: own(p, a, b, some(2)); break;
            case 11:
            case 12:
            case 13: led(a, b, is, some(4)); break;
            case 14: pair("soonest", a, b); break;
            case 15:
            case 16: tally.due("guide(" + a + ", " + b + ", " + i + ")", model.guide(a, b, i), ways.guide(a, b, i)); break;
            case 17:
            case 18: lot(a, b, some(3)); break;
            case 19:
            case 20: say(a, b, some(3)); break;
            case 21:
            case 22: learnt(a, b, is ? some(1000) : some(40), some(5)); break;
            default: other(kind, p, b);
        }
    }

    private void other(int kind, int p, int t) {
        int m = some(30);
        switch (kind) {
            case 23:
            case 24: tally.due("missing(" + p + ", " + m + ")", model.missing(p, m), ways.missing(p, m)); break;
            case 25: lack(p, m); break;
            case 26: tally.due("fits()", model.fits(), ways.fits()); break;
            case 27:
            case 28: log(p, t); break;
            case 29: tally.due("judge()", model.judge(), ways.judge()); break;
            case 30: drift(some(random.nextInt(4) == 0 ? 100 : 8), some(2)); break;
            case 31: seeded(); break;
            case 32: tally.due("keep(" + m % 3 + ")", model.keep(m % 3), ways.keep(m % 3)); break;
            default:
                tally.due("goBack(" + m % 3 + ")", model.goBack(m % 3), ways.goBack(m % 3));
                all();
        }
    }

    private void pair(String name, int a, int b) {
        boolean far = name.equals("far");
        tally.due(name + "(" + a + ", " + b + ")", far ? model.far(a, b) : model.soonest(a, b), far ? ways.far(a, b) : ways.soonest(a, b));
    }

    private void law(int v) {
        tally.due("law(" + v + ")", model.law(v), ways.law(v));
    }

    private void learn(int p, int w, boolean is) {
        tally.due("learn(" + p + ", " + w + ", " + is + ")", model.learn(p, w, is), ways.learn(p, w, is));
    }

    private void habit(int p, int v) {
        tally.due("habit(" + p + ", " + v + ")", model.habit(p, v), ways.habit(p, v));
    }

    private void says(int p, int a, int t, int what) {
        tally.due("says(" + p + ", " + a + ", " + t + ", " + what + ")", model.says(p, a, t, what), ways.says(p, a, t, what));
    }

    private void own(int p, int a, int t, int what) {
        tally.due("own(" + p + ", " + a + ", " + t + ", " + what + ")", model.own(p, a, t, what), ways.own(p, a, t, what));
    }

    private void led(int a, int t, boolean own, int what) {
        tally.due("led(" + a + ", " + t + ", " + own + ", " + what + ")", model.led(a, t, own, what), ways.led(a, t, own, what));
    }

    private void lot(int a, int t, int what) {
        tally.due("lot(" + a + ", " + t + ", " + what + ")", model.lot(a, t, what), ways.lot(a, t, what));
    }

    private void say(int a, int w, int what) {
        tally.due("say(" + a + ", " + w + ", " + what + ")", model.say(a, w, what), ways.say(a, w, what));
    }

    private void learnt(int a, int t, int d, int what) {
        tally.due("learnt(" + a + ", " + t + ", " + d + ", " + what + ")", model.learnt(a, t, d, what), ways.learnt(a, t, d, what));
    }

    private void lack(int p, int m) {
        // Mostly minutes that can have been, else fits() is 0 all the time.
        int could = m;
        for (int i = 0; i < 200 && random.nextInt(10) > 0 && model.missing(p, could) <= 0; i++) {
            could = (could + 1) % 1000;
        }
        tally.due("lack(" + p + ", " + could + ")", model.lack(p, could), ways.lack(p, could));
    }

    private void log(int p, int t) {
        int pieces = some(random.nextInt(3) == 0 ? 10 : 3);
        int went = place();
        // Mostly what can have been, else judge() is 0 all the time.
        if (random.nextInt(6) > 0) {
            int home = model.person(p, 0);
            went = pieces < 1 || pieces > model.route(p, home, t, -1) ? home : pieceBy(p, home, t, pieces);
        }
        tally.due("log(" + p + ", " + t + ", " + pieces + ", " + went + ")", model.log(p, t, pieces, went), ways.log(p, t, pieces, went));
    }

    private int pieceBy(int p, int home, int t, int pieces) {
        int law = model.told(4);
        int out = law == 1 ? 1 : law == 3 ? (pieces + 1) / 2 : pieces;
        return law == 2 ? home : model.route(p, home, t, out - 1);
    }

    private void drift(int n, int what) {
        tally.due("drift(" + n + ", " + what + ")", model.drift(n, what), ways.drift(n, what));
    }

    private void seeded() {
        int v = random.nextInt(8) == 0 ? -random.nextInt(9) : random.nextInt() & Integer.MAX_VALUE;
        tally.due("seed(" + v + ")", model.seed(v), ways.seed(v));
    }
}
