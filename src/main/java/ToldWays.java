import java.util.Arrays;

/**
 * Whoever tells the way must walk it: places, ways and persons told in a text; strangers who ask and are led;
 * what follows from habits, laws, lots and errands. The document is ../shared/DOC.md; its words in capitals are used here.
 *
 * <p>All rows are made in constructors and used again, because all calls of a run live in one room. Rows are read
 * and written through at and put alone, which look at the index first, so that none can fall outside.
 */
public final class ToldWays {
    public static final int NONE = -1, UNKNOWN = -1000000001, OUTSIDE = -1000000002, NOT = -1000000003, FULL = -1000000004;

    private static final int MOST_BYTES = 400, MOST_PLACES = 10, MOST_WAYS = 14, MOST_PERSONS = 6;
    private static final int MOST_LOGGED = 30, MOST_MISSED = 8, MOST_SAID = 9, MOST_MINUTES = 999, MOST_STRANGERS = 99;
    private static final int LAST_LAW = 3, LAST_HABIT = 3, IMAGES = 2;
    private static final int ONE_PIECE = 1, HOME_AGAIN = 2, HALF = 3;
    private static final int FIRST = 1, ERRAND = 2, WHOLE = 3;
    private static final int MILLION = 1000000, BILLION = 1000000000;
    /** A key is minutes times this and how many PIECES or GUIDES: so the least key has the fewest of both, minutes first. */
    private static final int KEY = 16;
    /** Above every key; a key more does not leave int. */
    private static final int FAR_OFF = BILLION;
    /** What route() is asked for the minutes by. */
    private static final int ITS_MINUTES = -2;

    private final Text text;
    private final Reader reader;
    private final Land land;
    private final Path path;
    /** By the PLACE that is wanted, so that many strangers who want to the same one are answered once. */
    private final Guides[] guides;
    private final Lessons lessons;
    private final Draws draws;
    private final Journal journal;
    private final Image[] images;
    private int law;

    public ToldWays() {
        text = new Text();
        reader = new Reader();
        land = new Land();
        path = new Path();
        guides = new Guides[MOST_PLACES];
        for (int t = 0; t < guides.length; t++) {
            guides[t] = new Guides(land, path);
        }
        lessons = new Lessons(land, new Guides(land, path));
        draws = new Draws();
        journal = new Journal();
        images = new Image[IMAGES];
        for (int i = 0; i < images.length; i++) {
            images[i] = new Image();
        }
    }

    // ---- the land

    public int feed(int n, long bytes) {
        if (n < 1 || n > 8) {
            return OUTSIDE;
        }
        if (text.length + n > MOST_BYTES) {
            return FULL;
        }
        text.append(n, bytes);
        return text.length;
    }

    public int land() {
        int found = reader.read(text);
        text.length = 0;
        if (found != 0) {
            return -10 - found;
        }
        land.become(reader.draft);
        journal.forget();
        for (int i = 0; i < images.length; i++) {
            images[i].kept = false;
        }
        return land.places;
    }

    public int fault() {
        return reader.faultPlace;
    }

    public int told(int what) {
        switch (what) {
            case 0: return land.places;
            case 1: return land.ways;
            case 2: return land.persons;
            case 3: return text.length;
            case 4: return law;
            case 5: return journal.logged;
            case 6: return journal.missed;
            default: return OUTSIDE;
        }
    }

    public int way(int w, int what) {
        if (!land.hasWay(w)) {
            return UNKNOWN;
        }
        switch (what) {
            case 0: return at(land.wayFrom, w);
            case 1: return at(land.wayTo, w);
            case 2: return at(land.wayMinutes, w);
            default: return OUTSIDE;
        }
    }

    public int person(int p, int what) {
        if (!land.hasPerson(p)) {
            return UNKNOWN;
        }
        switch (what) {
            case 0: return at(land.homes, p);
            case 1: return at(land.errands, p);
            case 2: return at(land.worths, p);
            case 3: return at(land.habits, p);
            case 4: return at(land.known, p);
            default: return OUTSIDE;
        }
    }

    public int far(int a, int b) {
        if (!land.hasPlace(a) || !land.hasPlace(b)) {
            return UNKNOWN;
        }
        return farBetween(a, b);
    }

    public int law(int v) {
        if (v < 0 || v > LAST_LAW) {
            return OUTSIDE;
        }
        int was = law;
        law = v;
        return was;
    }

    public int learn(int p, int w, boolean is) {
        if (!land.hasPerson(p) || !land.hasWay(w)) {
            return UNKNOWN;
        }
        int known = at(land.known, p);
        put(land.known, p, is ? known | 1 << w : known & ~(1 << w));
        return known >> w & 1;
    }

    public int habit(int p, int v) {
        if (!land.hasPerson(p)) {
            return UNKNOWN;
        }
        if (v < 0 || v > LAST_HABIT) {
            return OUTSIDE;
        }
        int was = at(land.habits, p);
        put(land.habits, p, v);
        return was;
    }

    // ---- routes, answers

    public int route(int p, int a, int t, int i) {
        if (!canAsk(p, a, t)) {
            return UNKNOWN;
        }
        seekFor(p, a, t);
        if (i == NONE || path.pieces == NONE) {
            return path.pieces;
        }
        if (i == ITS_MINUTES) {
            return path.minutesTo(path.pieces);
        }
        return i >= 0 && i < path.pieces ? path.placeAfter(i + 1) : NONE;
    }

    public int says(int p, int a, int t, int what) {
        if (!canAsk(p, a, t)) {
            return UNKNOWN;
        }
        if (what < 0 || what > 4) {
            return OUTSIDE;
        }
        seekFor(p, a, t);
        int said = path.saidBy(at(land.habits, p), at(land.errands, p));
        switch (what) {
            case 0: return said;
            case 1: return path.placeAfter(said);
            case 2: return path.minutesTo(said);
            case 3: return path.placeByLaw(law, said);
            default: return path.minutesByLaw(law, said);
        }
    }

    public int own(int p, int a, int t, int what) {
        if (!canAsk(p, a, t)) {
            return UNKNOWN;
        }
        if (what < 0 || what > 1) {
            return OUTSIDE;
        }
        seekFor(p, a, t);
        int errand = at(land.errands, p), worth = at(land.worths, p);
        int pieces = path.dearest(law, errand, worth);
        return what == 0 ? pieces : path.gain(law, pieces, errand, worth);
    }

    // ---- strangers

    public int led(int a, int t, boolean own, int what) {
        if (!land.hasPlace(a) || !land.hasPlace(t)) {
            return UNKNOWN;
        }
        if (what < 0 || what > 3) {
            return OUTSIDE;
        }
        Guides to = gathered(t, own);
        to.lead(a, t, null);
        switch (what) {
            case 0: return to.minutesGone;
            case 1: return to.place;
            case 2: return to.place == t ? 0 : 1;
            default: return to.leaders;
        }
    }

    public int soonest(int a, int t) {
        if (!land.hasPlace(a) || !land.hasPlace(t)) {
            return UNKNOWN;
        }
        return gathered(t, false).fewestMinutes(a, t);
    }

    public int guide(int a, int t, int i) {
        if (!land.hasPlace(a) || !land.hasPlace(t)) {
            return UNKNOWN;
        }
        Guides to = gathered(t, false);
        if (to.fewestMinutes(a, t) == NONE) {
            return NONE;
        }
        return i == NONE ? to.fewestGuides(a) : to.bestGuide(a, t, i);
    }

    public int lot(int a, int t, int what) {
        if (!land.hasPlace(a) || !land.hasPlace(t)) {
            return UNKNOWN;
        }
        if (what < 0 || what > 2) {
            return OUTSIDE;
        }
        Guides to = gathered(t, false);
        to.lots(a, t);
        switch (what) {
            case 0: return to.lostOdds;
            case 1: return to.longest;
            default: return (int) (to.sum / MILLION);
        }
    }

    public int say(int a, int w, int what) {
        if (!land.hasPlace(a) || !land.hasPlace(w)) {
            return UNKNOWN;
        }
        if (what < 0 || what > 2) {
            return OUTSIDE;
        }
        int person = NONE, target = NONE, minutes = NONE;
        for (int p = 0; p < land.persons; p++) {
            for (int t = 0; t < land.places; t++) {
                int needs = at(land.homes, p) == a && t != a ? minutesIfLedTo(w, p, a, t) : NONE;
                if (needs != NONE && (minutes == NONE || needs < minutes)) {
                    person = p;
                    target = t;
                    minutes = needs;
                }
            }
        }
        return what == 0 ? person : what == 1 ? target : minutes;
    }

    public int learnt(int a, int t, int d, int what) {
        if (!land.hasPlace(a) || !land.hasPlace(t)) {
            return UNKNOWN;
        }
        if (d < 0 || d > MOST_MINUTES || what < 0 || what > 4) {
            return OUTSIDE;
        }
        // Nobody leads faster than FAR: then no WAY that is learnt helps, and the dear search can be left out.
        int far = farBetween(a, t);
        if (far == NONE || far > d) {
            return NONE;
        }
        lessons.begin(a, t, d);
        if (lessons.count == NONE) {
            lessons.seekOne();
        }
        if (lessons.count == NONE) {
            lessons.seekTwo();
        }
        return lessons.answer(what);
    }

    // ---- who said what

    public int missing(int p, int m) {
        if (!land.hasPerson(p)) {
            return UNKNOWN;
        }
        return m < 0 || m > MOST_MINUTES ? OUTSIDE : askedFor(p, m);
    }

    public int lack(int p, int m) {
        if (!land.hasPerson(p)) {
            return UNKNOWN;
        }
        if (m < 0 || m > MOST_MINUTES) {
            return OUTSIDE;
        }
        return journal.addMissed(p, m);
    }

    public int fits() {
        for (int i = 0; i < journal.missed; i++) {
            if (askedFor(at(journal.missedPersons, i), at(journal.missedMinutes, i)) == 0) {
                return 0;
            }
        }
        return 1;
    }

    public int log(int p, int t, int pieces, int went) {
        if (!land.hasPerson(p) || !land.hasPlace(t) || !land.hasPlace(went)) {
            return UNKNOWN;
        }
        if (pieces < 0 || pieces > MOST_SAID) {
            return OUTSIDE;
        }
        return journal.addLogged(p, t, pieces, went);
    }

    public int clear() {
        int both = journal.logged + journal.missed;
        journal.forget();
        return both;
    }

    public int judge() {
        for (int i = 0; i < journal.logged; i++) {
            int p = at(journal.persons, i), pieces = at(journal.pieces, i);
            seekFor(p, at(land.homes, p), at(journal.targets, i));
            boolean tooMany = pieces > Math.max(0, path.pieces);
            if (tooMany || path.placeByLaw(law, pieces) != at(journal.went, i)) {
                return i;
            }
        }
        return NONE;
    }

    // ---- draws, images

    public int drift(int n, int what) {
        if (n < 1 || n > MOST_STRANGERS || what < 0 || what > 1) {
            return OUTSIDE;
        }
        if (land.places == 0) {
            return NOT;
        }
        int come = 0, minutes = 0, heard = 0;
        for (int i = 0; i < n; i++) {
            int a = draws.next(land.places), t = draws.next(land.places);
            // What PERSONS SAY stays as it is while strangers go.
            Guides to = (heard >> t & 1) == 1 ? guidesTo(t) : gathered(t, false);
            heard |= 1 << t;
            to.lead(a, t, draws);
            if (to.place == t) {
                come++;
                minutes += to.minutesGone;
            }
        }
        return what == 0 ? come : minutes;
    }

    public int seed(int v) {
        if (v < 0) {
            return OUTSIDE;
        }
        int was = draws.state;
        draws.state = v;
        return was;
    }

    public int keep(int i) {
        if (i < 0 || i >= images.length) {
            return UNKNOWN;
        }
        Image image = images[i];
        copy(land.known, image.known);
        copy(land.habits, image.habits);
        image.law = law;
        image.draws = draws.state;
        image.kept = true;
        return 1;
    }

    public int goBack(int i) {
        if (i < 0 || i >= images.length) {
            return UNKNOWN;
        }
        Image image = images[i];
        if (!image.kept) {
            return NOT;
        }
        copy(image.known, land.known);
        copy(image.habits, land.habits);
        law = image.law;
        draws.state = image.draws;
        return 1;
    }

    // ---- what several of the calls need

    private boolean canAsk(int p, int a, int t) {
        return land.hasPerson(p) && land.hasPlace(a) && land.hasPlace(t);
    }

    private void seekFor(int p, int a, int t) {
        path.seek(land, at(land.known, p), a, t);
    }

    private int farBetween(int a, int b) {
        path.seek(land, (1 << land.ways) - 1, a, b);
        return path.pieces == NONE ? NONE : path.minutesTo(path.pieces);
    }

    private Guides guidesTo(int t) {
        return guides[t >= 0 && t < guides.length ? t : 0];
    }

    /** Where PERSONS lead one who wants to t, as things are now. */
    private Guides gathered(int t, boolean own) {
        Guides to = guidesTo(t);
        to.gather(t, own, law);
        return to;
    }

    /** Minutes to w, if the PERSON, asked for t at a, takes one there by its OWN ANSWER; NONE. */
    private int minutesIfLedTo(int w, int p, int a, int t) {
        seekFor(p, a, t);
        int pieces = path.dearest(law, at(land.errands, p), at(land.worths, p));
        return pieces > 0 && path.placeAfter(pieces) == w ? path.minutesTo(pieces) : NONE;
    }

    /** The SET of MISSING. */
    private int askedFor(int p, int m) {
        int set = 0, home = at(land.homes, p);
        for (int t = 0; t < land.places; t++) {
            seekFor(p, home, t);
            // Above 0, for nobody is asked for the PLACE where one is already.
            if (path.pieces > 0 && path.minutesByLaw(law, path.pieces) == m) {
                set |= 1 << t;
            }
        }
        return set;
    }

    private static int at(int[] row, int i) {
        return i >= 0 && i < row.length ? row[i] : NONE;
    }

    private static void put(int[] row, int i, int value) {
        if (i >= 0 && i < row.length) {
            row[i] = value;
        }
    }

    private static void copy(int[] from, int[] to) {
        System.arraycopy(from, 0, to, 0, Math.min(from.length, to.length));
    }

    /** THE TEXT as it was fed. */
    private static final class Text {
        private final int[] bytes = new int[MOST_BYTES];
        private int length;

        private void append(int n, long more) {
            for (int k = n - 1; k >= 0; k--) {
                put(bytes, length, (int) (more >>> 8 * k & 255));
                length++;
            }
        }
    }

    /** THE LAND as it is told, with what PERSONS KNOW and their habits as they are now. */
    private static final class Land {
        private final int[] wayFrom = new int[MOST_WAYS];
        private final int[] wayTo = new int[MOST_WAYS];
        private final int[] wayMinutes = new int[MOST_WAYS];
        private final int[] homes = new int[MOST_PERSONS];
        private final int[] errands = new int[MOST_PERSONS];
        private final int[] worths = new int[MOST_PERSONS];
        private final int[] habits = new int[MOST_PERSONS];
        private final int[] known = new int[MOST_PERSONS];
        private int places;
        private int ways;
        private int persons;

        private boolean hasPlace(int a) {
            return a >= 0 && a < places;
        }

        private boolean hasWay(int w) {
            return w >= 0 && w < ways;
        }

        private boolean hasPerson(int p) {
            return p >= 0 && p < persons;
        }

        private void empty() {
            places = 0;
            ways = 0;
            persons = 0;
        }

        private void become(Land other) {
            copy(other.wayFrom, wayFrom);
            copy(other.wayTo, wayTo);
            copy(other.wayMinutes, wayMinutes);
            copy(other.homes, homes);
            copy(other.errands, errands);
            copy(other.worths, worths);
            copy(other.habits, habits);
            copy(other.known, known);
            places = other.places;
            ways = other.ways;
            persons = other.persons;
        }

        /** Where the WAY leads from here; NONE: it does not begin here. */
        private int otherEnd(int w, int here) {
            int from = at(wayFrom, w), to = at(wayTo, w);
            return from == here ? to : to == here ? from : NONE;
        }

        private boolean areJoined(int a, int b) {
            for (int w = 0; w < ways; w++) {
                if (otherEnd(w, a) == b) {
                    return true;
                }
            }
            return false;
        }
    }

    /** Reads THE TEXT into a draft of THE LAND, up to the first FAULT: every FAULT is one of the token that is ahead. */
    private static final class Reader {
        private static final int BLANK = 32, CANNOT_STAND = 1, OUT_OF_BOUNDS = 2, TOO_MANY = 3, AGAIN = 4, MOST_FIGURES = 3;

        private final Land draft = new Land();
        private Text source;
        private int faultKind;
        private int faultPlace = NONE;
        /** The token ahead: from start, its length, the signs of it. A word, a NUMBER, one other byte; of none at the end. */
        private int start;
        private int length;
        private boolean word;
        private boolean number;
        private int value;

        /** The number of the FAULT; 0: there is none, and the draft is whole. */
        private int read(Text text) {
            source = text;
            draft.empty();
            faultKind = 0;
            faultPlace = NONE;
            start = 0;
            length = 0;
            step();
            for (int clause = 0; clause < MOST_BYTES && faultKind == 0 && length > 0; clause++) {
                if (isWord("places")) {
                    readPlaces();
                } else if (draft.places > 0 && isWord("way")) {
                    readWay();
                } else if (draft.places > 0 && isWord("person")) {
                    readPerson();
                } else {
                    blame(CANNOT_STAND);
                }
            }
            return faultKind;
        }

        private void readPlaces() {
            if (draft.places > 0) {
                blame(TOO_MANY);
                return;
            }
            step();
            int n = takeNumber(1, MOST_PLACES);
            takeSign(';');
            draft.places = n;
        }

        private void readWay() {
            if (draft.ways >= MOST_WAYS) {
                blame(TOO_MANY);
                return;
            }
            step();
            int a = takeNumber(0, draft.places - 1);
            int b = seeNumber(0, draft.places - 1);
            if (a == b || draft.areJoined(a, b)) {
                blame(AGAIN);
            }
            step();
            int minutes = takeNumber(1, 99);
            takeSign(';');
            put(draft.wayFrom, draft.ways, a);
            put(draft.wayTo, draft.ways, b);
            put(draft.wayMinutes, draft.ways, minutes);
            draft.ways++;
        }

        private void readPerson() {
            int p = draft.persons;
            if (p >= MOST_PERSONS) {
                blame(TOO_MANY);
                return;
            }
            step();
            put(draft.homes, p, takeNumber(0, draft.places - 1));
            put(draft.errands, p, takeNumber(0, draft.places - 1));
            put(draft.worths, p, takeNumber(0, 99));
            put(draft.habits, p, takeHabit());
            put(draft.known, p, isWord("knows") ? takeKnown() : 0);
            takeSign(';');
            draft.persons++;
        }

        private int takeHabit() {
            int habit = isWord("silent") ? 0 : isWord("first") ? FIRST : isWord("errand") ? ERRAND : isWord("whole") ? WHOLE : NONE;
            if (habit == NONE) {
                blame(CANNOT_STAND);
            }
            step();
            return habit;
        }

        /** From 'knows' on: the SET of WAYS; what comes behind it is ahead then. */
        private int takeKnown() {
            int set = 0;
            boolean more = true;
            for (int i = 0; i < MOST_BYTES && more && faultKind == 0; i++) {
                // Over 'knows', or over the comma.
                step();
                int w = seeNumber(0, draft.ways - 1);
                if (w != NONE && (set >> w & 1) == 1) {
                    blame(AGAIN);
                }
                set |= w == NONE ? 0 : 1 << w;
                step();
                more = isSign(',');
            }
            return set;
        }

        private int takeNumber(int least, int most) {
            int n = seeNumber(least, most);
            step();
            return n;
        }

        /** The NUMBER ahead; NONE with a FAULT. */
        private int seeNumber(int least, int most) {
            if (!number) {
                blame(CANNOT_STAND);
            } else if (length > MOST_FIGURES || value < least || value > most) {
                blame(OUT_OF_BOUNDS);
            }
            return faultKind == 0 ? value : NONE;
        }

        private void takeSign(char sign) {
            if (!isSign(sign)) {
                blame(CANNOT_STAND);
            }
            step();
        }

        private boolean isSign(char sign) {
            return length == 1 && byteAt(start) == sign;
        }

        private boolean isWord(String name) {
            boolean same = word && length == name.length();
            for (int i = 0; i < name.length() && same; i++) {
                same = byteAt(start + i) == name.charAt(i);
            }
            return same;
        }

        /** The first FAULT stays: the later ones are at the same byte or behind it, and follow from it. */
        private void blame(int kind) {
            if (faultKind == 0) {
                faultKind = kind;
                faultPlace = start;
            }
        }

        private void step() {
            start += length;
            for (int i = 0; i < MOST_BYTES && byteAt(start) == BLANK; i++) {
                start++;
            }
            word = isLetter(byteAt(start));
            number = isFigure(byteAt(start));
            length = byteAt(start) == NONE ? 0 : 1;
            value = byteAt(start) - '0';
            for (int i = 1; i < MOST_BYTES && goesOn(byteAt(start + i)); i++) {
                length++;
                value = length > MOST_FIGURES ? value : value * 10 + byteAt(start + i) - '0';
            }
        }

        private boolean goesOn(int next) {
            return word && isLetter(next) || number && isFigure(next);
        }

        private int byteAt(int i) {
            return source != null && i < source.length ? at(source.bytes, i) : NONE;
        }

        private static boolean isLetter(int b) {
            return b >= 'a' && b <= 'z';
        }

        private static boolean isFigure(int b) {
            return b >= '0' && b <= '9';
        }
    }

    /** The ROUTE that was sought last, and how much of it is said and walked. */
    private static final class Path {
        private final int[] keys = new int[MOST_PLACES];
        private final int[] stops = new int[MOST_PLACES];
        private final int[] clock = new int[MOST_PLACES];
        /** NONE: no ROUTE. */
        private int pieces = NONE;

        private void seek(Land land, int known, int a, int t) {
            pieces = NONE;
            // Also without a ROUTE: behind no PIECES one is at a, after no minutes.
            put(stops, 0, a);
            put(clock, 0, 0);
            measure(land, known, t);
            if (at(keys, a) >= FAR_OFF) {
                return;
            }
            int here = a;
            pieces = 0;
            for (int i = 1; i < MOST_PLACES && here != t; i++) {
                int w = nextWay(land, known, here);
                here = land.otherEnd(w, here);
                put(stops, i, here);
                put(clock, i, at(clock, i - 1) + at(land.wayMinutes, w));
                pieces = i;
            }
        }

        /** The key from each PLACE to t. */
        private void measure(Land land, int known, int t) {
            Arrays.fill(keys, FAR_OFF);
            put(keys, t, 0);
            boolean closer = true;
            for (int round = 0; round < MOST_PLACES && closer; round++) {
                closer = false;
                for (int w = 0; w < land.ways; w++) {
                    if ((known >> w & 1) == 1) {
                        int from = at(land.wayFrom, w), to = at(land.wayTo, w), piece = at(land.wayMinutes, w) * KEY + 1;
                        int keyFrom = Math.min(at(keys, from), at(keys, to) + piece);
                        int keyTo = Math.min(at(keys, to), keyFrom + piece);
                        closer = closer || keyFrom < at(keys, from) || keyTo < at(keys, to);
                        put(keys, from, keyFrom);
                        put(keys, to, keyTo);
                    }
                }
            }
        }

        /** Of the WAYS from here that lose nothing the one to the least PLACE. */
        private int nextWay(Land land, int known, int here) {
            int best = NONE, least = MOST_PLACES;
            for (int w = 0; w < land.ways; w++) {
                int next = land.otherEnd(w, here);
                if (next != NONE && next < least && (known >> w & 1) == 1
                        && at(keys, next) + at(land.wayMinutes, w) * KEY + 1 == at(keys, here)) {
                    best = w;
                    least = next;
                }
            }
            return best;
        }

        private int placeAfter(int some) {
            return at(stops, some);
        }

        private int minutesTo(int some) {
            return at(clock, some);
        }

        /** How many PIECES it is to a PLACE of the ROUTE; NONE: it does not come there, or is there ahead. */
        private int piecesTo(int place) {
            for (int i = 1; i <= pieces; i++) {
                if (at(stops, i) == place) {
                    return i;
                }
            }
            return NONE;
        }

        private int saidBy(int habit, int errand) {
            if (pieces < 1) {
                return 0;
            }
            switch (habit) {
                case FIRST: return 1;
                case ERRAND: return Math.max(0, piecesTo(errand));
                case WHOLE: return pieces;
                default: return 0;
            }
        }

        /** How many PIECES the PERSON walks away from where it was asked. */
        private int outByLaw(int law, int said) {
            return law == ONE_PIECE ? Math.min(1, said) : law == HALF ? (said + 1) / 2 : said;
        }

        private int placeByLaw(int law, int said) {
            return placeAfter(law == HOME_AGAIN ? 0 : outByLaw(law, said));
        }

        private int minutesByLaw(int law, int said) {
            return minutesTo(outByLaw(law, said)) * (law == HOME_AGAIN ? 2 : 1);
        }

        /** What the PERSON GAINS by so many PIECES. */
        private int gain(int law, int said, int errand, int worth) {
            int needed = piecesTo(errand);
            boolean comes = needed != NONE && needed <= outByLaw(law, said);
            return (comes ? worth : 0) - minutesByLaw(law, said);
        }

        /** The PIECES of the OWN ANSWER. */
        private int dearest(int law, int errand, int worth) {
            int best = 0;
            for (int said = 1; said <= pieces; said++) {
                if (gain(law, said, errand, worth) > gain(law, best, errand, worth)) {
                    best = said;
                }
            }
            return best;
        }
    }

    /** Where PERSONS lead a stranger who wants to t, and what comes of it. */
    private static final class Guides {
        private final Land land;
        private final Path path;
        /** Of a PERSON: the END, NONE if it SAYS nothing; the minutes to it. */
        private final int[] ends = new int[MOST_PERSONS];
        private final int[] minutes = new int[MOST_PERSONS];
        /** Of a PLACE: the least key to t. */
        private final int[] keys = new int[MOST_PLACES];
        private int target;
        private int place;
        private int minutesGone;
        private int leaders;
        private int lostOdds;
        private int longest;
        private long sum;

        private Guides(Land land, Path path) {
            this.land = land;
            this.path = path;
        }

        private void gather(int t, boolean own, int law) {
            for (int p = 0; p < land.persons; p++) {
                if (own) {
                    path.seek(land, at(land.known, p), at(land.homes, p), t);
                    hear(p, path.dearest(law, at(land.errands, p), at(land.worths, p)));
                } else {
                    ask(p, at(land.known, p), t);
                }
            }
        }

        /** What the PERSON SAYS by habit, if it KNOWS these WAYS. */
        private void ask(int p, int known, int t) {
            path.seek(land, known, at(land.homes, p), t);
            hear(p, path.saidBy(at(land.habits, p), at(land.errands, p)));
        }

        private void hear(int p, int said) {
            put(ends, p, said > 0 ? path.placeAfter(said) : NONE);
            put(minutes, p, path.minutesTo(said));
        }

        private boolean leads(int p, int here, int led) {
            return at(land.homes, p) == here && at(ends, p) != NONE && (led >> p & 1) == 0;
        }

        private int howMany(int here, int led) {
            int many = 0;
            for (int p = 0; p < land.persons; p++) {
                many += leads(p, here, led) ? 1 : 0;
            }
            return many;
        }

        /** The i-th of those who lead from here; NONE. */
        private int leader(int here, int led, int i) {
            int seen = 0;
            for (int p = 0; p < land.persons; p++) {
                if (leads(p, here, led)) {
                    if (seen == i) {
                        return p;
                    }
                    seen++;
                }
            }
            return NONE;
        }

        /** A stranger goes from a to t: with the first who leads, or by draws, if there are any. */
        private void lead(int a, int t, Draws draws) {
            int led = 0;
            place = a;
            minutesGone = 0;
            leaders = 0;
            for (int i = 0; i < MOST_PERSONS && place != t; i++) {
                int many = howMany(place, led);
                if (many == 0) {
                    return;
                }
                int p = leader(place, led, draws == null ? 0 : draws.next(many));
                led |= 1 << p;
                place = at(ends, p);
                minutesGone += at(minutes, p);
                leaders++;
            }
        }

        /**
         * SOONEST; the keys are for the GUIDES. That a PERSON leads but once needs no look: it leads from its PLACE alone,
         * and who comes to a PLACE again is not soonest.
         */
        private int fewestMinutes(int a, int t) {
            Arrays.fill(keys, FAR_OFF);
            put(keys, t, 0);
            boolean closer = true;
            for (int round = 0; round < MOST_PLACES && closer; round++) {
                closer = false;
                for (int p = 0; p < land.persons; p++) {
                    if (at(ends, p) != NONE && keyBy(p) < at(keys, at(land.homes, p))) {
                        put(keys, at(land.homes, p), keyBy(p));
                        closer = true;
                    }
                }
            }
            return at(keys, a) >= FAR_OFF ? NONE : at(keys, a) / KEY;
        }

        private int keyBy(int p) {
            return at(keys, at(ends, p)) + at(minutes, p) * KEY + 1;
        }

        private int fewestGuides(int a) {
            return at(keys, a) % KEY;
        }

        /** The i-th of THE GUIDES; NONE: not so many. */
        private int bestGuide(int a, int t, int i) {
            int here = a;
            for (int k = 0; k <= i && k < MOST_PERSONS && here != t; k++) {
                int p = leastGuide(here);
                if (k == i) {
                    return p;
                }
                here = at(ends, p);
            }
            return NONE;
        }

        private int leastGuide(int here) {
            for (int p = 0; p < land.persons; p++) {
                if (leads(p, here, 0) && keyBy(p) == at(keys, here)) {
                    return p;
                }
            }
            return NONE;
        }

        /** BY LOT from a to t. */
        private void lots(int a, int t) {
            target = t;
            lostOdds = 0;
            longest = NONE;
            sum = 0;
            castLots(this, a, 0, BILLION, 0, 0);
        }

        /** Each level has one more PERSON who led: so there are six levels at most below the first. */
        private static void castLots(Guides g, int here, int led, int odds, int gone, int depth) {
            if (depth > MOST_PERSONS) {
                return;
            }
            if (here == g.target) {
                g.longest = Math.max(g.longest, gone);
                g.sum += (long) odds * gone;
                return;
            }
            int many = g.howMany(here, led);
            if (many == 0) {
                g.lostOdds += odds;
                return;
            }
            int share = odds / many;
            for (int i = 0; i < many; i++) {
                int p = g.leader(here, led, i);
                if (p == NONE) {
                    return;
                }
                int part = i == many - 1 ? odds - share * i : share;
                castLots(g, at(g.ends, p), led | 1 << p, part, gone + at(g.minutes, p), depth + 1);
            }
        }
    }

    /** LEARNT. A lesson is PERSON and WAY in one number, so that lessons have their order. */
    private static final class Lessons {
        private static final int MOST_LESSONS = MOST_PERSONS * MOST_WAYS;

        private final Land land;
        private final Guides guides;
        /** Where its PERSON leads with this lesson alone, and without any. */
        private final int[] ends = new int[MOST_LESSONS];
        private final int[] minutes = new int[MOST_LESSONS];
        private final int[] endsNow = new int[MOST_PERSONS];
        private final int[] minutesNow = new int[MOST_PERSONS];
        private int from;
        private int target;
        private int limit;
        private int count;
        private int first;
        private int second;

        private Lessons(Land land, Guides guides) {
            this.land = land;
            this.guides = guides;
        }

        private void begin(int a, int t, int d) {
            from = a;
            target = t;
            limit = d;
            guides.gather(t, false, 0);
            copy(guides.ends, endsNow);
            copy(guides.minutes, minutesNow);
            count = isInTime() ? 0 : NONE;
        }

        private void seekOne() {
            for (int x = 0; x < MOST_LESSONS; x++) {
                int p = x / MOST_WAYS;
                if (canBeLearnt(x)) {
                    guides.ask(p, at(land.known, p) | 1 << x % MOST_WAYS, target);
                    put(ends, x, at(guides.ends, p));
                    put(minutes, x, at(guides.minutes, p));
                    if (isInTime()) {
                        count = 1;
                        first = x;
                        return;
                    }
                    unlearn(p);
                }
            }
        }

        private void seekTwo() {
            for (int x = 0; x < MOST_LESSONS; x++) {
                for (int y = x + 1; y < MOST_LESSONS; y++) {
                    if (canBeLearnt(x) && canBeLearnt(y) && areBothInTime(x, y)) {
                        count = 2;
                        first = x;
                        second = y;
                        return;
                    }
                }
            }
        }

        private boolean areBothInTime(int x, int y) {
            int p = x / MOST_WAYS, q = y / MOST_WAYS;
            if (p == q) {
                guides.ask(p, at(land.known, p) | 1 << x % MOST_WAYS | 1 << y % MOST_WAYS, target);
            } else if (changesNothing(x) || changesNothing(y)) {
                // Then it is as with the other one alone, which was too late.
                return false;
            } else {
                apply(x);
                apply(y);
            }
            boolean is = isInTime();
            unlearn(p);
            unlearn(q);
            return is;
        }

        private boolean canBeLearnt(int x) {
            int p = x / MOST_WAYS, w = x % MOST_WAYS;
            return land.hasPerson(p) && land.hasWay(w) && (at(land.known, p) >> w & 1) == 0;
        }

        private boolean changesNothing(int x) {
            int p = x / MOST_WAYS;
            return at(ends, x) == at(endsNow, p) && at(minutes, x) == at(minutesNow, p);
        }

        private void apply(int x) {
            put(guides.ends, x / MOST_WAYS, at(ends, x));
            put(guides.minutes, x / MOST_WAYS, at(minutes, x));
        }

        private void unlearn(int p) {
            put(guides.ends, p, at(endsNow, p));
            put(guides.minutes, p, at(minutesNow, p));
        }

        private boolean isInTime() {
            int fewest = guides.fewestMinutes(from, target);
            return fewest != NONE && fewest <= limit;
        }

        private int answer(int what) {
            switch (what) {
                case 0: return count;
                case 1: return count < 1 ? NONE : first / MOST_WAYS;
                case 2: return count < 1 ? NONE : first % MOST_WAYS;
                case 3: return count < 2 ? NONE : second / MOST_WAYS;
                default: return count < 2 ? NONE : second % MOST_WAYS;
            }
        }
    }

    /** THE LOG, and who was MISSING. */
    private static final class Journal {
        private final int[] persons = new int[MOST_LOGGED];
        private final int[] targets = new int[MOST_LOGGED];
        private final int[] pieces = new int[MOST_LOGGED];
        private final int[] went = new int[MOST_LOGGED];
        private final int[] missedPersons = new int[MOST_MISSED];
        private final int[] missedMinutes = new int[MOST_MISSED];
        private int logged;
        private int missed;

        private int addLogged(int p, int t, int some, int where) {
            if (logged >= MOST_LOGGED) {
                return FULL;
            }
            put(persons, logged, p);
            put(targets, logged, t);
            put(pieces, logged, some);
            put(went, logged, where);
            logged++;
            return logged;
        }

        private int addMissed(int p, int m) {
            if (missed >= MOST_MISSED) {
                return FULL;
            }
            put(missedPersons, missed, p);
            put(missedMinutes, missed, m);
            missed++;
            return missed;
        }

        private void forget() {
            logged = 0;
            missed = 0;
        }
    }

    /** THE SEED, and what is drawn by it. */
    private static final class Draws {
        private int state;

        private int next(int n) {
            state = (int) (state * 1103515245L + 12345L & 2147483647L);
            return n < 1 ? 0 : state / 65536 % n;
        }
    }

    /** What an IMAGE keeps. */
    private static final class Image {
        private final int[] known = new int[MOST_PERSONS];
        private final int[] habits = new int[MOST_PERSONS];
        private int law;
        private int draws;
        private boolean kept;
    }
}
