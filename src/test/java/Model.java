import java.util.ArrayList;
import java.util.Comparator;
import java.util.HashMap;
import java.util.List;
import java.util.Map;
import java.util.regex.Matcher;
import java.util.regex.Pattern;

/**
 * The document again, as slowly and as near to its words as can be: every simple way is listed and the best is taken.
 * It has the face of ToldWays, so that random calls can be asked of both.
 */
final class Model {
    static final int NONE = -1, UNKNOWN = -1000000001, OUTSIDE = -1000000002, NOT = -1000000003, FULL = -1000000004;

    record Way(int a, int b, int minutes) {
    }

    static final class Person {
        int place, errand, worth, habit;
        int knows;
    }

    /** Places one comes through behind the first, and minutes. */
    record Route(int minutes, List<Integer> places) {
    }

    record Fault(int place, int kind) {
    }

    record Asking(int person, int target, int pieces, int went) {
    }

    record Image(int law, long seed, List<Integer> knows, List<Integer> habits) {
    }

    private String text = "";
    private int places;
    private List<Way> ways = new ArrayList<>();
    private List<Person> persons = new ArrayList<>();
    private int law;
    private long seed;
    private int faultPlace = NONE;
    private final List<Asking> log = new ArrayList<>();
    private final List<int[]> missed = new ArrayList<>();
    private final Image[] images = new Image[2];
    private final Map<Long, Route> routes = new HashMap<>();

    // ---- the land

    int feed(int n, long bytes) {
        if (n < 1 || n > 8) return OUTSIDE;
        if (text.length() + n > 400) return FULL;
        StringBuilder more = new StringBuilder();
        for (int i = 0; i < n; i++) {
            more.insert(0, (char) (bytes & 255));
            bytes >>= 8;
        }
        text += more;
        return text.length();
    }

    int land() {
        Parsed parsed = new Parsed(text);
        text = "";
        Fault fault = parsed.parse();
        faultPlace = fault == null ? NONE : fault.place;
        if (fault != null) return -10 - fault.kind;
        places = parsed.places;
        ways = parsed.ways;
        persons = parsed.persons;
        log.clear();
        missed.clear();
        images[0] = null;
        images[1] = null;
        routes.clear();
        return places;
    }

    private static final class Parsed {
        int places;
        final List<Way> ways = new ArrayList<>();
        final List<Person> persons = new ArrayList<>();
        private final String text;
        private final List<Integer> starts = new ArrayList<>();
        private final List<String> tokens = new ArrayList<>();
        private int next;

        private static final class Found extends RuntimeException {
            private static final long serialVersionUID = 1;
            final transient Fault fault;

            Found(int place, int kind) {
                super(null, null, false, false);
                fault = new Fault(place, kind);
            }
        }

        Parsed(String text) {
            this.text = text;
            Matcher m = Pattern.compile("[a-z]+|[0-9]+|[^ ]", Pattern.DOTALL).matcher(text);
            while (m.find()) {
                starts.add(m.start());
                tokens.add(m.group());
            }
            starts.add(text.length());
            tokens.add("");
        }

        private Found found(int kind) {
            return new Found(starts.get(next), kind);
        }

        private String peek() {
            return tokens.get(next);
        }

        private int number(int least, int most) {
            if (!peek().matches("[0-9]+")) throw found(1);
            if (peek().length() > 3 || Integer.parseInt(peek()) < least || Integer.parseInt(peek()) > most) throw found(2);
            return Integer.parseInt(peek());
        }

        private int skipNumber(int least, int most) {
            int n = number(least, most);
            next++;
            return n;
        }

        private void sign(String sign) {
            if (!peek().equals(sign)) throw found(1);
            next++;
        }

        Fault parse() {
            try {
                while (!peek().isEmpty()) clause();
            } catch (Found e) {
                return e.fault;
            }
            return null;
        }

        private void clause() {
            String word = peek();
            if (!List.of("places", "way", "person").contains(word)) throw found(1);
            if (places == 0 && !word.equals("places")) throw found(1);
            if (word.equals("places") && places > 0) throw found(3);
            if (word.equals("way") && ways.size() == 14) throw found(3);
            if (word.equals("person") && persons.size() == 6) throw found(3);
            next++;
            if (word.equals("places")) places = skipNumber(1, 10);
            else if (word.equals("way")) wayClause();
            else personClause();
            sign(";");
        }

        private void wayClause() {
            int a = skipNumber(0, places - 1);
            int b = number(0, places - 1);
            boolean again = a == b;
            for (Way way : ways) again |= way.a == a && way.b == b || way.a == b && way.b == a;
            if (again) throw found(4);
            next++;
            ways.add(new Way(a, b, skipNumber(1, 99)));
        }

        private void personClause() {
            Person person = new Person();
            person.place = skipNumber(0, places - 1);
            person.errand = skipNumber(0, places - 1);
            person.worth = skipNumber(0, 99);
            person.habit = List.of("silent", "first", "errand", "whole").indexOf(peek());
            if (person.habit < 0) throw found(1);
            next++;
            if (peek().equals("knows")) {
                do {
                    next++;
                    int w = number(0, ways.size() - 1);
                    if ((person.knows & 1 << w) != 0) throw found(4);
                    person.knows |= 1 << w;
                    next++;
                } while (peek().equals(","));
            }
            persons.add(person);
        }
    }

    int fault() {
        return faultPlace;
    }

    int told(int what) {
        int[] all = {places, ways.size(), persons.size(), text.length(), law, log.size(), missed.size()};
        return what < 0 || what > 6 ? OUTSIDE : all[what];
    }

    int way(int w, int what) {
        if (w < 0 || w >= ways.size()) return UNKNOWN;
        if (what < 0 || what > 2) return OUTSIDE;
        Way way = ways.get(w);
        return new int[] {way.a, way.b, way.minutes}[what];
    }

    int person(int p, int what) {
        if (noPerson(p)) return UNKNOWN;
        if (what < 0 || what > 4) return OUTSIDE;
        Person x = persons.get(p);
        return new int[] {x.place, x.errand, x.worth, x.habit, x.knows}[what];
    }

    int far(int a, int b) {
        if (noPlace(a) || noPlace(b)) return UNKNOWN;
        Route route = best((1 << ways.size()) - 1, a, b);
        return route == null ? NONE : route.minutes;
    }

    int law(int v) {
        if (v < 0 || v > 3) return OUTSIDE;
        int was = law;
        law = v;
        return was;
    }

    int learn(int p, int w, boolean is) {
        if (noPerson(p) || w < 0 || w >= ways.size()) return UNKNOWN;
        int was = (persons.get(p).knows & 1 << w) != 0 ? 1 : 0;
        if (was != (is ? 1 : 0)) persons.get(p).knows ^= 1 << w;
        return was;
    }

    int habit(int p, int v) {
        if (noPerson(p)) return UNKNOWN;
        if (v < 0 || v > 3) return OUTSIDE;
        int was = persons.get(p).habit;
        persons.get(p).habit = v;
        return was;
    }

    private boolean noPlace(int a) {
        return a < 0 || a >= places;
    }

    private boolean noPerson(int p) {
        return p < 0 || p >= persons.size();
    }

    // ---- routes, answers

    private static final Comparator<Route> BETTER = (x, y) -> {
        if (x.minutes != y.minutes) return Integer.compare(x.minutes, y.minutes);
        return firstOf(x.places, y.places);
    };

    private static int firstOf(List<Integer> x, List<Integer> y) {
        if (x.size() != y.size()) return Integer.compare(x.size(), y.size());
        for (int i = 0; i < x.size(); i++) {
            if (!x.get(i).equals(y.get(i))) return Integer.compare(x.get(i), y.get(i));
        }
        return 0;
    }

    private Route best(int known, int a, int t) {
        long key = known * 100L + a * 10 + t;
        if (!routes.containsKey(key)) routes.put(key, search(known, a, t, 1 << a));
        return routes.get(key);
    }

    private Route search(int known, int here, int t, int seen) {
        if (here == t) return new Route(0, List.of());
        Route best = null;
        for (int w = 0; w < ways.size(); w++) {
            Way way = ways.get(w);
            int to = way.a == here ? way.b : way.b == here ? way.a : NONE;
            if ((known & 1 << w) == 0 || to == NONE || (seen & 1 << to) != 0) continue;
            Route rest = search(known, to, t, seen | 1 << to);
            if (rest == null) continue;
            List<Integer> all = new ArrayList<>(List.of(to));
            all.addAll(rest.places);
            Route whole = new Route(way.minutes + rest.minutes, all);
            if (best == null || BETTER.compare(whole, best) < 0) best = whole;
        }
        return best;
    }

    private Route routeOf(int p, int a, int t) {
        return best(persons.get(p).knows, a, t);
    }

    private int minutesBetween(int a, int b) {
        for (Way way : ways) {
            if (way.a == a && way.b == b || way.a == b && way.b == a) return way.minutes;
        }
        throw new IllegalStateException();
    }

    private int minutesOf(int a, List<Integer> some) {
        int sum = 0, here = a;
        for (int next : some) {
            sum += minutesBetween(here, next);
            here = next;
        }
        return sum;
    }

    private static int lastOf(int a, List<Integer> some) {
        return some.isEmpty() ? a : some.get(some.size() - 1);
    }

    /** All PLACES that the PERSON comes to by LAW, one behind the other. */
    private List<Integer> walkOf(int a, List<Integer> said) {
        List<Integer> walk = new ArrayList<>();
        if (said.isEmpty()) return walk;
        if (law == 0) walk.addAll(said);
        if (law == 1) walk.add(said.get(0));
        if (law == 2) {
            walk.addAll(said);
            for (int i = said.size() - 2; i >= 0; i--) walk.add(said.get(i));
            walk.add(a);
        }
        if (law == 3) walk.addAll(said.subList(0, said.size() % 2 == 0 ? said.size() / 2 : said.size() / 2 + 1));
        return walk;
    }

    private List<Integer> said(int p, int a, int t) {
        Person person = persons.get(p);
        Route route = routeOf(p, a, t);
        if (route == null || a == t || person.habit == 0) return List.of();
        if (person.habit == 1) return route.places.subList(0, 1);
        if (person.habit == 3) return route.places;
        return route.places.subList(0, route.places.indexOf(person.errand) + 1);
    }

    private int gains(int p, int a, List<Integer> answer) {
        Person person = persons.get(p);
        List<Integer> walk = walkOf(a, answer);
        boolean is = walk.contains(person.errand) && a != person.errand;
        return (is ? person.worth : 0) - minutesOf(a, walk);
    }

    private List<Integer> ownAnswer(int p, int a, int t) {
        Route route = routeOf(p, a, t);
        List<Integer> best = List.of();
        for (int k = 1; route != null && k <= route.places.size(); k++) {
            List<Integer> some = route.places.subList(0, k);
            if (gains(p, a, some) > gains(p, a, best)) best = some;
        }
        return best;
    }

    int route(int p, int a, int t, int i) {
        if (noPerson(p) || noPlace(a) || noPlace(t)) return UNKNOWN;
        Route route = routeOf(p, a, t);
        if (route == null) return NONE;
        if (i == -1) return route.places.size();
        if (i == -2) return route.minutes;
        return i < 0 || i >= route.places.size() ? NONE : route.places.get(i);
    }

    int says(int p, int a, int t, int what) {
        if (noPerson(p) || noPlace(a) || noPlace(t)) return UNKNOWN;
        if (what < 0 || what > 4) return OUTSIDE;
        List<Integer> said = said(p, a, t);
        List<Integer> walk = walkOf(a, said);
        return new int[] {said.size(), lastOf(a, said), minutesOf(a, said), lastOf(a, walk), minutesOf(a, walk)}[what];
    }

    int own(int p, int a, int t, int what) {
        if (noPerson(p) || noPlace(a) || noPlace(t)) return UNKNOWN;
        if (what < 0 || what > 1) return OUTSIDE;
        List<Integer> answer = ownAnswer(p, a, t);
        return what == 0 ? answer.size() : gains(p, a, answer);
    }

    // ---- strangers

    int led(int a, int t, boolean own, int what) {
        if (noPlace(a) || noPlace(t)) return UNKNOWN;
        if (what < 0 || what > 3) return OUTSIDE;
        List<Integer> asked = new ArrayList<>();
        int here = a, minutes = 0, led = 0;
        boolean lost = false;
        while (here != t && !lost) {
            lost = true;
            for (int p = 0; p < persons.size() && lost; p++) {
                if (persons.get(p).place != here || asked.contains(p)) continue;
                asked.add(p);
                List<Integer> told = own ? ownAnswer(p, here, t) : said(p, here, t);
                if (told.isEmpty()) continue;
                lost = false;
                minutes += minutesOf(here, told);
                here = lastOf(here, told);
                led++;
            }
        }
        return new int[] {minutes, here, lost ? 1 : 0, led}[what];
    }

    private List<Integer> leaders(int here, int t, List<Integer> led) {
        List<Integer> all = new ArrayList<>();
        for (int p = 0; p < persons.size(); p++) {
            if (persons.get(p).place == here && !led.contains(p) && !said(p, here, t).isEmpty()) all.add(p);
        }
        return all;
    }

    /** The best of all orders: minutes, and the PERSONS in the list of places. */
    private Route soonestOf(int here, int t, List<Integer> led) {
        if (here == t) return new Route(0, List.of());
        Route best = null;
        for (int p : leaders(here, t, led)) {
            List<Integer> said = said(p, here, t);
            List<Integer> then = new ArrayList<>(led);
            then.add(p);
            Route rest = soonestOf(lastOf(here, said), t, then);
            if (rest == null) continue;
            List<Integer> all = new ArrayList<>(List.of(p));
            all.addAll(rest.places);
            Route whole = new Route(minutesOf(here, said) + rest.minutes, all);
            if (best == null || BETTER.compare(whole, best) < 0) best = whole;
        }
        return best;
    }

    int soonest(int a, int t) {
        if (noPlace(a) || noPlace(t)) return UNKNOWN;
        Route best = soonestOf(a, t, List.of());
        return best == null ? NONE : best.minutes;
    }

    int guide(int a, int t, int i) {
        if (noPlace(a) || noPlace(t)) return UNKNOWN;
        Route best = soonestOf(a, t, List.of());
        if (best == null || i < -1) return NONE;
        if (i == -1) return best.places.size();
        return i < best.places.size() ? best.places.get(i) : NONE;
    }

    private long lostOdds, longest, sum;

    int lot(int a, int t, int what) {
        if (noPlace(a) || noPlace(t)) return UNKNOWN;
        if (what < 0 || what > 2) return OUTSIDE;
        lostOdds = 0;
        longest = NONE;
        sum = 0;
        cast(a, t, List.of(), 1000000000L, 0);
        return (int) new long[] {lostOdds, longest, sum / 1000000}[what];
    }

    private void cast(int here, int t, List<Integer> led, long odds, int minutes) {
        if (here == t) {
            longest = Math.max(longest, minutes);
            sum += odds * minutes;
            return;
        }
        List<Integer> all = leaders(here, t, led);
        if (all.isEmpty()) lostOdds += odds;
        long left = odds;
        for (int i = 0; i < all.size(); i++) {
            long part = i + 1 < all.size() ? odds / all.size() : left;
            left -= part;
            List<Integer> said = said(all.get(i), here, t);
            List<Integer> then = new ArrayList<>(led);
            then.add(all.get(i));
            cast(lastOf(here, said), t, then, part, minutes + minutesOf(here, said));
        }
    }

    int say(int a, int w, int what) {
        if (noPlace(a) || noPlace(w)) return UNKNOWN;
        if (what < 0 || what > 2) return OUTSIDE;
        List<int[]> all = new ArrayList<>();
        for (int p = 0; p < persons.size(); p++) {
            if (persons.get(p).place != a) continue;
            for (int t = 0; t < places; t++) {
                List<Integer> answer = ownAnswer(p, a, t);
                if (t != a && !answer.isEmpty() && lastOf(a, answer) == w) all.add(new int[] {p, t, minutesOf(a, answer)});
            }
        }
        all.sort(Comparator.<int[]>comparingInt(x -> x[2]).thenComparingInt(x -> x[0]).thenComparingInt(x -> x[1]));
        return all.isEmpty() ? NONE : all.get(0)[what];
    }

    int learnt(int a, int t, int d, int what) {
        if (noPlace(a) || noPlace(t)) return UNKNOWN;
        if (d < 0 || d > 999 || what < 0 || what > 4) return OUTSIDE;
        if (inTime(a, t, d)) return what == 0 ? 0 : NONE;
        List<int[]> all = new ArrayList<>();
        for (int p = 0; p < persons.size(); p++) {
            for (int w = 0; w < ways.size(); w++) {
                if ((persons.get(p).knows & 1 << w) == 0) all.add(new int[] {p, w});
            }
        }
        for (int[] one : all) {
            persons.get(one[0]).knows |= 1 << one[1];
            boolean is = inTime(a, t, d);
            persons.get(one[0]).knows &= ~(1 << one[1]);
            if (is) return new int[] {1, one[0], one[1], NONE, NONE}[what];
        }
        for (int i = 0; i < all.size(); i++) {
            for (int j = i + 1; j < all.size(); j++) {
                int[] x = all.get(i), y = all.get(j);
                persons.get(x[0]).knows |= 1 << x[1];
                persons.get(y[0]).knows |= 1 << y[1];
                boolean is = inTime(a, t, d);
                persons.get(x[0]).knows &= ~(1 << x[1]);
                persons.get(y[0]).knows &= ~(1 << y[1]);
                if (is) return new int[] {2, x[0], x[1], y[0], y[1]}[what];
            }
        }
        return NONE;
    }

    private boolean inTime(int a, int t, int d) {
        Route best = soonestOf(a, t, List.of());
        return best != null && best.minutes <= d;
    }

    // ---- who said what

    int missing(int p, int m) {
        if (noPerson(p)) return UNKNOWN;
        if (m < 0 || m > 999) return OUTSIDE;
        int set = 0, home = persons.get(p).place;
        for (int t = 0; t < places; t++) {
            Route route = routeOf(p, home, t);
            if (t != home && route != null && minutesOf(home, walkOf(home, route.places)) == m) set |= 1 << t;
        }
        return set;
    }

    int lack(int p, int m) {
        if (noPerson(p)) return UNKNOWN;
        if (m < 0 || m > 999) return OUTSIDE;
        if (missed.size() == 8) return FULL;
        missed.add(new int[] {p, m});
        return missed.size();
    }

    int fits() {
        for (int[] one : missed) {
            if (missing(one[0], one[1]) == 0) return 0;
        }
        return 1;
    }

    int log(int p, int t, int pieces, int went) {
        if (noPerson(p) || noPlace(t) || noPlace(went)) return UNKNOWN;
        if (pieces < 0 || pieces > 9) return OUTSIDE;
        if (log.size() == 30) return FULL;
        log.add(new Asking(p, t, pieces, went));
        return log.size();
    }

    int clear() {
        int both = log.size() + missed.size();
        log.clear();
        missed.clear();
        return both;
    }

    int judge() {
        for (int i = 0; i < log.size(); i++) {
            Asking asking = log.get(i);
            int home = persons.get(asking.person).place;
            Route route = routeOf(asking.person, home, asking.target);
            int has = route == null ? 0 : route.places.size();
            if (asking.pieces > has) return i;
            List<Integer> said = asking.pieces == 0 ? List.of() : route.places.subList(0, asking.pieces);
            if (lastOf(home, walkOf(home, said)) != asking.went) return i;
        }
        return NONE;
    }

    // ---- draws, images

    private int draw(int n) {
        seed = Math.floorMod(seed * 1103515245L + 12345L, 1L << 31);
        return (int) (seed / 65536 % n);
    }

    int drift(int n, int what) {
        if (n < 1 || n > 99 || what < 0 || what > 1) return OUTSIDE;
        if (places == 0) return NOT;
        int come = 0, all = 0;
        for (int i = 0; i < n; i++) {
            int here = draw(places), t = draw(places), minutes = 0;
            List<Integer> led = new ArrayList<>();
            while (here != t) {
                List<Integer> some = leaders(here, t, led);
                if (some.isEmpty()) break;
                int p = some.get(draw(some.size()));
                List<Integer> said = said(p, here, t);
                minutes += minutesOf(here, said);
                here = lastOf(here, said);
                led.add(p);
            }
            if (here == t) {
                come++;
                all += minutes;
            }
        }
        return what == 0 ? come : all;
    }

    int seed(int v) {
        if (v < 0) return OUTSIDE;
        int was = (int) seed;
        seed = v;
        return was;
    }

    int keep(int i) {
        if (i != 0 && i != 1) return UNKNOWN;
        List<Integer> knows = new ArrayList<>(), habits = new ArrayList<>();
        for (Person person : persons) {
            knows.add(person.knows);
            habits.add(person.habit);
        }
        images[i] = new Image(law, seed, knows, habits);
        return 1;
    }

    int goBack(int i) {
        if (i != 0 && i != 1) return UNKNOWN;
        if (images[i] == null) return NOT;
        law = images[i].law;
        seed = images[i].seed;
        for (int p = 0; p < persons.size(); p++) {
            persons.get(p).knows = images[i].knows.get(p);
            persons.get(p).habit = images[i].habits.get(p);
        }
        return 1;
    }
}
