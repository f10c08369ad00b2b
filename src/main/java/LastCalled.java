import java.util.Arrays;

/** A hamlet in which a name stays on whoever has turned round at it, until he turns at another. */
public final class LastCalled {
    public static final int NONE = -1, BAD = -2, NO = -3, FULL = -4;

    private static final int MOST_PEOPLE = 7;
    private static final int PLACES = 10;
    private static final int KINDS = 6;
    private static final int DAYS = 100;
    private static final int MOST_DEEDS = 6;
    private static final int MOST_PENCE = 60;
    private static final int MOST_NOTES = 6;
    private static final int NOTE_WIDTH = 5;
    private static final int MOST_UNDONE = 8;
    private static final int IMAGES = 2;
    private static final int MOST_BYTES = 150;
    private static final int SEEDS = 1000000;
    private static final int MOST_WEEKS = 60;
    private static final int AMOUNTS = 7;
    /** of() answers it for BAD, so that it is told from a name; read() tells its faults from there down. */
    private static final int FAR_BELOW = -10;

    private final Hamlet now = new Hamlet();
    /** Read into first, so that a text with a fault changes nothing. */
    private final Hamlet draft = new Hamlet();
    private final Hamlet[] images = {new Hamlet(), new Hamlet()};
    private final boolean[] kept = new boolean[IMAGES];
    private final Text text = new Text();
    private final Fraction fraction = new Fraction();
    private final Hearing hearing = new Hearing();
    private final Search search = new Search();
    /** How many calls were refused: as BAD, NO, FULL. */
    private final int[] refused = new int[3];

    public LastCalled() {
    }

    // ---- a hamlet

    public int hamlet(int day) {
        if (!within(day, DAYS)) {
            return refuse(BAD);
        }
        int were = now.people;
        now.begin(day);
        return were;
    }

    public int one(int kind, int place) {
        if (!within(kind, KINDS) || !within(place, PLACES)) {
            return refuse(BAD);
        }
        if (now.people >= MOST_PEOPLE) {
            return refuse(FULL);
        }
        now.join(kind, place);
        return now.people - 1;
    }

    public int type(int c) {
        if (!within(c, 128)) {
            return refuse(BAD);
        }
        if (text.length >= MOST_BYTES) {
            return refuse(FULL);
        }
        text.append(c);
        return text.length;
    }

    public int clear() {
        int had = text.length;
        text.length = 0;
        return had;
    }

    public int read() {
        int items = text.tell(draft);
        if (items < 0) {
            return FAR_BELOW - text.start;
        }
        now.copyFrom(draft);
        return items;
    }

    // ---- calls

    public int call(int name, int place) {
        if (!isThere(name) || !within(place, PLACES)) {
            return refuse(BAD);
        }
        int turners = turnersAt(name, place);
        now.remember();
        settle(now.bearing, name, turners);
        return turners;
    }

    public int goes(int p, int place) {
        if (!isThere(p) || !within(place, PLACES)) {
            return refuse(BAD);
        }
        int was = now.places[p];
        now.remember();
        now.places[p] = place;
        return was;
    }

    public int day() {
        now.remember();
        now.date++;
        return now.date;
    }

    public int undo() {
        if (now.pasts <= 0) {
            return refuse(NO);
        }
        now.goBack();
        return now.date;
    }

    public int of(int p, int what) {
        if (!isThere(p) || !within(what, 3)) {
            refuse(BAD);
            return FAR_BELOW;
        }
        if (what == 0) {
            return now.kinds[p];
        }
        return what == 1 ? now.places[p] : now.nameOf(p);
    }

    public int turn(int name, int place) {
        if (!isThere(name) || !within(place, PLACES)) {
            return refuse(BAD);
        }
        return turnersAt(name, place);
    }

    public int bearers(int name) {
        return isThere(name) ? now.bearing[name] : refuse(BAD);
    }

    public int names(int what) {
        if (!within(what, 2)) {
            return refuse(BAD);
        }
        int found = 0;
        for (int name = 0; name < now.people; name++) {
            int many = Integer.bitCount(now.bearing[name]);
            if (what == 0 ? many == 0 : many >= 2) {
                found |= 1 << name;
            }
        }
        return found;
    }

    // ---- the fewest

    public int calls(int p, int name, int what) {
        if (!isThere(p) || !isThere(name) || !within(what, 2)) {
            return refuse(BAD);
        }
        hearing.listen(now);
        search.toBear(now, hearing, p, name);
        return what == 0 ? search.fewest : search.first;
    }

    public int own(int what) {
        if (!within(what, 3)) {
            return refuse(BAD);
        }
        hearing.listen(now);
        search.ownAgain(now, hearing);
        if (what == 0) {
            return search.fewest;
        }
        return what == 1 ? search.most : search.first;
    }

    public int ring(int p) {
        if (!isThere(p)) {
            return refuse(BAD);
        }
        int at = p;
        // a way that has not come back after as many steps as there are people never does
        for (int steps = 1; steps <= now.people; steps++) {
            at = now.nameOf(at);
            if (at == p) {
                return steps;
            }
            if (at == NONE) {
                return 0;
            }
        }
        return 0;
    }

    // ---- deeds

    public int deed(int name, int pence) {
        if (!isThere(name) || pence < 1 || pence > MOST_PENCE) {
            return refuse(BAD);
        }
        if (now.deeds >= MOST_DEEDS) {
            return refuse(FULL);
        }
        now.deedNames[now.deeds] = name;
        now.deedPence[now.deeds] = pence;
        now.deeds++;
        return now.deeds;
    }

    public int owes(int p) {
        if (!isThere(p)) {
            return refuse(BAD);
        }
        int name = now.nameOf(p);
        if (name == NONE) {
            fraction.become(0, 1);
        } else {
            fraction.become(now.penceOn(name), Integer.bitCount(now.bearing[name]));
        }
        return 1;
    }

    public int unpaid() {
        int pence = 0;
        for (int name = 0; name < now.people; name++) {
            if (now.bearing[name] == 0) {
                pence += now.penceOn(name);
            }
        }
        return pence;
    }

    public int ears(int a, int b, int name, int place) {
        if (!isThere(a) || !isThere(b) || a == b || !isThere(name) || !within(place, PLACES)) {
            return refuse(BAD);
        }
        int turners = turnersAt(name, place);
        int before = now.bearing[name];
        int rest = 0;
        for (int pair = 0; pair < 4; pair++) {
            int here = bearersBehind(before, turners & ~stopped(pair, a, b));
            int ifA = bearersBehind(before, turners & ~stopped(pair ^ 1, a, b));
            int ifB = bearersBehind(before, turners & ~stopped(pair ^ 2, a, b));
            if (bit(ifA, a) <= bit(here, a) && bit(ifB, b) <= bit(here, b)) {
                rest |= 1 << pair;
            }
        }
        return rest;
    }

    // ---- who turned

    public int note(int p, int x, int d, int bore, int turned) {
        if (!isThere(p) || !within(x, PLACES) || !within(d, DAYS) || !within(bore, 2) || !within(turned, 2)) {
            return refuse(BAD);
        }
        if (now.notes >= MOST_NOTES) {
            return refuse(FULL);
        }
        now.write(p, x, d, bore, turned);
        return now.notes;
    }

    public int forget(int what) {
        if (!within(what, 2)) {
            return refuse(BAD);
        }
        int were = what == 0 ? now.deeds : now.notes;
        if (what == 0) {
            now.deeds = 0;
        } else {
            now.notes = 0;
        }
        return were;
    }

    public int is(int p) {
        if (!isThere(p)) {
            return refuse(BAD);
        }
        int found = 0;
        for (int kind = 0; kind < KINDS; kind++) {
            if (fits(p, kind, now.places[p])) {
                found |= 1 << kind;
            }
        }
        return found;
    }

    public int stood(int p) {
        return isThere(p) ? placesThatFit(p) : refuse(BAD);
    }

    public int next(int p) {
        if (!isThere(p)) {
            return refuse(BAD);
        }
        int may = placesThatFit(p);
        int least = PLACES + 1;
        int best = NONE;
        for (int from = 0; from < PLACES && may != 0; from++) {
            int turning = may & placesTurningAt(p, from);
            int greater = Math.max(Integer.bitCount(turning), Integer.bitCount(may & ~turning));
            if (greater < least) {
                least = greater;
                best = from;
            }
        }
        return best;
    }

    public int trippers(int p, int name, int place, int c) {
        if (!isThere(p) || !isThere(name) || !within(place, PLACES) || !within(c, 11)) {
            return refuse(BAD);
        }
        int turners = turnersAt(name, place);
        long below = 1;
        long allDeaf = 1;
        for (int i = Integer.bitCount(turners); i > 0; i--) {
            below *= 10;
            allDeaf *= c;
        }
        long above = bit(turners, p) * (10 - c) * (below / 10);
        // where nobody listens all stays, so p keeps a name borne before
        above += bit(now.bearing[name], p) * allDeaf;
        fraction.become(above, below);
        return 1;
    }

    public int weeks(int seed, int n) {
        if (!within(seed, SEEDS) || !within(n, MOST_WEEKS + 1)) {
            return refuse(BAD);
        }
        if (now.people == 0) {
            return refuse(NO);
        }
        hearing.listen(now);
        return search.ownersBehindWeeks(now, hearing, seed, n);
    }

    // ---- what there is

    public long part(int what) {
        if (!within(what, 2)) {
            return refuse(BAD);
        }
        return what == 0 ? fraction.above : fraction.below;
    }

    public int image(int i) {
        if (!within(i, IMAGES)) {
            return refuse(BAD);
        }
        images[i].copyFrom(now);
        kept[i] = true;
        return 1;
    }

    public int from(int i) {
        if (!within(i, IMAGES)) {
            return refuse(BAD);
        }
        if (!kept[i]) {
            return refuse(NO);
        }
        now.copyFrom(images[i]);
        return 1;
    }

    public int status(int what) {
        if (!within(what, 3)) {
            refuse(BAD);
            return NONE;
        }
        return refused[what];
    }

    public int count(int what) {
        return within(what, AMOUNTS) ? amount(what) : refuse(BAD);
    }

    public long digest() {
        long h = 1201;
        for (int what = 0; what < AMOUNTS; what++) {
            h = 31 * h + amount(what);
        }
        h = now.mixInto(h);
        h = 31 * h + fraction.above;
        return 31 * h + fraction.below;
    }

    // ---- what several calls need

    private static boolean within(int number, int bound) {
        return number >= 0 && number < bound;
    }

    private static int bit(int bits, int i) {
        return (bits >> i) & 1;
    }

    private boolean isThere(int p) {
        return within(p, now.people);
    }

    private int refuse(int reason) {
        int i = BAD - reason;
        if (within(i, refused.length)) {
            refused[i]++;
        }
        return reason;
    }

    private int amount(int what) {
        switch (what) {
            case 0: return now.people;
            case 1: return now.date;
            case 2: return Integer.bitCount(owners(now.bearing));
            case 3: return now.deeds;
            case 4: return now.notes;
            case 5: return now.pasts;
            default: return text.length;
        }
    }

    private int turnersAt(int name, int place) {
        hearing.listenAt(now, place);
        return hearing.turners(now.bearing, name, place);
    }

    /** A call's mark on who bears what: by name, the bearers as bits. */
    private static void settle(int[] bearing, int name, int turners) {
        if (turners == 0 || !within(name, bearing.length)) {
            return;
        }
        for (int other = 0; other < bearing.length; other++) {
            bearing[other] &= ~turners;
        }
        bearing[name] = turners;
    }

    private static int bearersBehind(int before, int turners) {
        return turners == 0 ? before : turners;
    }

    /** Who bear the own name, as bits. */
    private static int owners(int[] bearing) {
        int found = 0;
        for (int p = 0; p < bearing.length; p++) {
            found |= bearing[p] & (1 << p);
        }
        return found;
    }

    private static int stopped(int pair, int a, int b) {
        return bit(pair, 0) << a | bit(pair, 1) << b;
    }

    /** Whether all notes of p are so, if p is of that kind and stands there. */
    private boolean fits(int p, int kind, int place) {
        for (int i = 0; i < now.notes; i++) {
            int at = i * NOTE_WIDTH;
            if (now.noted[at] == p) {
                int far = Math.abs(place - now.noted[at + 1]);
                boolean turns = hearing.turnsAs(kind, far, now.noted[at + 3] == 1, false, now.noted[at + 2]);
                if (turns != (now.noted[at + 4] == 1)) {
                    return false;
                }
            }
        }
        return true;
    }

    private int placesThatFit(int p) {
        int found = 0;
        for (int place = 0; place < PLACES; place++) {
            if (fits(p, now.kinds[p], place)) {
                found |= 1 << place;
            }
        }
        return found;
    }

    /** Where p would turn, today, at another's name that is called from there. */
    private int placesTurningAt(int p, int from) {
        int found = 0;
        for (int place = 0; place < PLACES; place++) {
            if (hearing.turnsAs(now.kinds[p], Math.abs(place - from), false, false, now.date)) {
                found |= 1 << place;
            }
        }
        return found;
    }

    // ---- the kinds, each under another

    private static class Plain {
        boolean turns(int far, boolean bears, boolean nobodyDoes, int day) {
            return far <= 3;
        }
    }

    private static class Careful extends Plain {
        boolean turns(int far, boolean bears, boolean nobodyDoes, int day) {
            return bears && super.turns(far, bears, nobodyDoes, day);
        }
    }

    private static final class Deaf extends Plain {
        boolean turns(int far, boolean bears, boolean nobodyDoes, int day) {
            return super.turns(far + 2, bears, nobodyDoes, day);
        }
    }

    private static class Child extends Plain {
        boolean turns(int far, boolean bears, boolean nobodyDoes, int day) {
            return super.turns(far - 3, bears, nobodyDoes, day);
        }
    }

    private static final class Sheep extends Child {
        boolean turns(int far, boolean bears, boolean nobodyDoes, int day) {
            return day % 2 == 0 && super.turns(far, bears, nobodyDoes, day);
        }
    }

    private static final class Cliff extends Careful {
        boolean turns(int far, boolean bears, boolean nobodyDoes, int day) {
            return super.turns(far, bears, nobodyDoes, day) || nobodyDoes && far <= 6;
        }
    }

    /** Who turns at a call from a place, by whether one bears the name, another does, or nobody. */
    private static final class Hearing {
        final Plain[] kinds = {new Plain(), new Careful(), new Deaf(), new Child(), new Sheep(), new Cliff()};
        final int[] atOwn = new int[PLACES];
        final int[] atOthers = new int[PLACES];
        final int[] atNobodys = new int[PLACES];

        boolean turnsAs(int kind, int far, boolean bears, boolean nobodyDoes, int day) {
            return within(kind, kinds.length) && kinds[kind].turns(far, bears, nobodyDoes, day);
        }

        void listen(Hamlet hamlet) {
            for (int place = 0; place < PLACES; place++) {
                listenAt(hamlet, place);
            }
        }

        void listenAt(Hamlet hamlet, int place) {
            if (!within(place, PLACES)) {
                return;
            }
            atOwn[place] = 0;
            atOthers[place] = 0;
            atNobodys[place] = 0;
            for (int p = 0; p < hamlet.people; p++) {
                int kind = hamlet.kinds[p];
                int far = Math.abs(hamlet.places[p] - place);
                atOwn[place] |= turnsAs(kind, far, true, false, hamlet.date) ? 1 << p : 0;
                atOthers[place] |= turnsAs(kind, far, false, false, hamlet.date) ? 1 << p : 0;
                atNobodys[place] |= turnsAs(kind, far, false, true, hamlet.date) ? 1 << p : 0;
            }
        }

        /** As bits; it must have been listened at that place since the people, the places or the day changed. */
        int turners(int[] bearing, int name, int place) {
            if (!within(name, bearing.length) || !within(place, PLACES)) {
                return 0;
            }
            int bearers = bearing[name];
            if (bearers == 0) {
                return atNobodys[place];
            }
            return atOwn[place] & bearers | atOthers[place] & ~bearers;
        }
    }

    /** The rows of calls, tried in rising order; a call in a row is 10 times its name and its place. */
    private static final class Search {
        final int[] behind = new int[MOST_PEOPLE];
        int fewest;
        int first;
        int most;

        void toBear(Hamlet hamlet, Hearing hearing, int p, int name) {
            fewest = 0;
            first = NONE;
            if (hamlet.nameOf(p) == name) {
                return;
            }
            fewest = 1;
            first = lastCall(hamlet.bearing, hearing, p, name);
            if (first != NONE) {
                return;
            }
            fewest = 2;
            for (int row = 0; row < PLACES * hamlet.people; row++) {
                callOnce(hamlet, hearing, row);
                if (lastCall(behind, hearing, p, name) != NONE) {
                    first = row;
                    return;
                }
            }
            fewest = NONE;
        }

        /** The last of a row that has no call too many is one of that very name, at which p turns. */
        private int lastCall(int[] bearing, Hearing hearing, int p, int name) {
            for (int place = 0; place < PLACES; place++) {
                if (bit(hearing.turners(bearing, name, place), p) == 1) {
                    return PLACES * name + place;
                }
            }
            return NONE;
        }

        void ownAgain(Hamlet hamlet, Hearing hearing) {
            fewest = 0;
            first = NONE;
            most = Integer.bitCount(owners(hamlet.bearing));
            int rows = PLACES * hamlet.people;
            tryLastCalls(hamlet.bearing, hearing, rows, NONE);
            for (int row = 0; row < rows; row++) {
                callOnce(hamlet, hearing, row);
                tryLastCalls(behind, hearing, rows, row);
            }
        }

        /** Only more than ever before counts, so what stays is the fewest calls and the first row. */
        private void tryLastCalls(int[] bearing, Hearing hearing, int rows, int callAhead) {
            int had = owners(bearing);
            for (int row = 0; row < rows; row++) {
                int name = row / PLACES;
                int turners = hearing.turners(bearing, name, row % PLACES);
                int have = Integer.bitCount(ownersBehind(had, name, turners));
                if (have > most) {
                    most = have;
                    fewest = callAhead == NONE ? 1 : 2;
                    first = callAhead == NONE ? row : callAhead;
                }
            }
        }

        private int ownersBehind(int had, int name, int turners) {
            if (turners == 0) {
                return had;
            }
            // a turner's own name is the called one or lost, and who owns the called one must turn to have it
            int called = 1 << name;
            return had & ~(turners | called) | turners & called;
        }

        private void callOnce(Hamlet hamlet, Hearing hearing, int row) {
            System.arraycopy(hamlet.bearing, 0, behind, 0, MOST_PEOPLE);
            int name = row / PLACES;
            settle(behind, name, hearing.turners(behind, name, row % PLACES));
        }

        int ownersBehindWeeks(Hamlet hamlet, Hearing hearing, int seed, int n) {
            if (hamlet.people <= 0) {
                return 0;
            }
            System.arraycopy(hamlet.bearing, 0, behind, 0, MOST_PEOPLE);
            long x = seed;
            for (int i = 0; i < n; i++) {
                x = (x * 1103515245L + 12345L) % 2147483648L;
                int name = (int) (x / 65536L % hamlet.people);
                int place = (int) (x / 1048576L % PLACES);
                settle(behind, name, hearing.turners(behind, name, place));
            }
            return Integer.bitCount(owners(behind));
        }
    }

    /** All that an image keeps. */
    private static final class Hamlet {
        private static final int PAST_WIDTH = 2 * MOST_PEOPLE + 1;

        int date;
        int people;
        final int[] kinds = new int[MOST_PEOPLE];
        final int[] places = new int[MOST_PEOPLE];
        /** By name, its bearers as bits. */
        final int[] bearing = new int[MOST_PEOPLE];
        int deeds;
        final int[] deedNames = new int[MOST_DEEDS];
        final int[] deedPence = new int[MOST_DEEDS];
        int notes;
        final int[] noted = new int[MOST_NOTES * NOTE_WIDTH];
        int pasts;
        /** The oldest first: bearers by name, places, the day. */
        final int[] past = new int[MOST_UNDONE * PAST_WIDTH];

        void begin(int firstDay) {
            date = firstDay;
            people = 0;
            Arrays.fill(bearing, 0);
            deeds = 0;
            notes = 0;
            pasts = 0;
        }

        void copyFrom(Hamlet other) {
            date = other.date;
            people = other.people;
            deeds = other.deeds;
            notes = other.notes;
            pasts = other.pasts;
            System.arraycopy(other.kinds, 0, kinds, 0, MOST_PEOPLE);
            System.arraycopy(other.places, 0, places, 0, MOST_PEOPLE);
            System.arraycopy(other.bearing, 0, bearing, 0, MOST_PEOPLE);
            System.arraycopy(other.deedNames, 0, deedNames, 0, MOST_DEEDS);
            System.arraycopy(other.deedPence, 0, deedPence, 0, MOST_DEEDS);
            System.arraycopy(other.noted, 0, noted, 0, MOST_NOTES * NOTE_WIDTH);
            System.arraycopy(other.past, 0, past, 0, MOST_UNDONE * PAST_WIDTH);
        }

        void join(int kind, int place) {
            if (people >= MOST_PEOPLE) {
                return;
            }
            kinds[people] = kind;
            places[people] = place;
            bearing[people] = 1 << people;
            people++;
            // the past knows nothing of who has just come
            pasts = 0;
        }

        int nameOf(int p) {
            for (int name = 0; name < people; name++) {
                if (bit(bearing[name], p) == 1) {
                    return name;
                }
            }
            return NONE;
        }

        void give(int p, int name) {
            for (int other = 0; other < people; other++) {
                bearing[other] &= ~(1 << p);
            }
            if (within(name, people)) {
                bearing[name] |= 1 << p;
            }
        }

        int penceOn(int name) {
            int pence = 0;
            for (int i = 0; i < deeds; i++) {
                if (deedNames[i] == name) {
                    pence += deedPence[i];
                }
            }
            return pence;
        }

        void write(int p, int x, int d, int bore, int turned) {
            if (notes >= MOST_NOTES) {
                return;
            }
            int at = notes * NOTE_WIDTH;
            noted[at] = p;
            noted[at + 1] = x;
            noted[at + 2] = d;
            noted[at + 3] = bore;
            noted[at + 4] = turned;
            notes++;
        }

        void remember() {
            if (pasts >= MOST_UNDONE) {
                pasts = MOST_UNDONE - 1;
                System.arraycopy(past, PAST_WIDTH, past, 0, pasts * PAST_WIDTH);
            }
            int at = pasts * PAST_WIDTH;
            System.arraycopy(bearing, 0, past, at, MOST_PEOPLE);
            System.arraycopy(places, 0, past, at + MOST_PEOPLE, MOST_PEOPLE);
            past[at + 2 * MOST_PEOPLE] = date;
            pasts++;
        }

        void goBack() {
            if (pasts <= 0) {
                return;
            }
            pasts--;
            int at = pasts * PAST_WIDTH;
            System.arraycopy(past, at, bearing, 0, MOST_PEOPLE);
            System.arraycopy(past, at + MOST_PEOPLE, places, 0, MOST_PEOPLE);
            date = past[at + 2 * MOST_PEOPLE];
        }

        long mixInto(long start) {
            long h = start;
            for (int p = 0; p < people; p++) {
                h = 31 * h + kinds[p];
                h = 31 * h + places[p];
                h = 31 * h + nameOf(p);
            }
            for (int i = 0; i < deeds; i++) {
                h = 31 * h + deedNames[i];
                h = 31 * h + deedPence[i];
            }
            for (int i = 0; i < notes * NOTE_WIDTH; i++) {
                h = 31 * h + noted[i];
            }
            return h;
        }
    }

    /** The text, and what it tells, token by token. */
    private static final class Text {
        private static final int END = 0, WORD = 1, NUMBER = 2, STOP = 3, WRONG = 4;

        final byte[] bytes = new byte[MOST_BYTES];
        int length;
        private int sort;
        /** The token's first byte: the fault, when the token can not stand there. */
        int start;
        private int end;
        private int value;

        void append(int c) {
            if (length < MOST_BYTES) {
                bytes[length] = (byte) c;
                length++;
            }
        }

        /** How many items; NONE: there is a fault, at the start of the token that stands there now. */
        int tell(Hamlet hamlet) {
            end = 0;
            advance();
            if (!isWord("hamlet") || !isNumberNext(DAYS)) {
                return NONE;
            }
            hamlet.begin(value);
            for (int items = 1; items <= MOST_BYTES; items++) {
                advance();
                if (sort != STOP) {
                    return NONE;
                }
                advance();
                if (sort == END) {
                    return items;
                }
                if (!isItem(hamlet)) {
                    return NONE;
                }
            }
            return NONE;
        }

        /** An item behind the first, but for the sign that ends it. */
        private boolean isItem(Hamlet hamlet) {
            if (isWord("one")) {
                return hamlet.people < MOST_PEOPLE && isOne(hamlet);
            }
            if (isWord("bears")) {
                return isBears(hamlet);
            }
            return isWord("none") && isNone(hamlet);
        }

        private boolean isOne(Hamlet hamlet) {
            if (!isNumberNext(KINDS)) {
                return false;
            }
            int kind = value;
            if (!isNumberNext(PLACES)) {
                return false;
            }
            hamlet.join(kind, value);
            return true;
        }

        private boolean isBears(Hamlet hamlet) {
            if (!isNumberNext(hamlet.people)) {
                return false;
            }
            int p = value;
            if (!isNumberNext(hamlet.people)) {
                return false;
            }
            hamlet.give(p, value);
            return true;
        }

        private boolean isNone(Hamlet hamlet) {
            if (!isNumberNext(hamlet.people)) {
                return false;
            }
            hamlet.give(value, NONE);
            return true;
        }

        private boolean isNumberNext(int bound) {
            advance();
            if (sort != NUMBER || end - start > 2) {
                return false;
            }
            value = 0;
            for (int i = start; i < end; i++) {
                value = 10 * value + (bytes[i] - '0');
            }
            return value < bound;
        }

        private boolean isWord(String word) {
            if (sort != WORD || end - start != word.length()) {
                return false;
            }
            for (int i = 0; i < word.length(); i++) {
                if (bytes[start + i] != word.charAt(i)) {
                    return false;
                }
            }
            return true;
        }

        private void advance() {
            start = end;
            while (start < length && bytes[start] == ' ') {
                start++;
            }
            end = start;
            sort = END;
            if (start < length) {
                sort = sortOf(bytes[start]);
                end++;
            }
            boolean runsOn = sort == WORD || sort == NUMBER;
            while (runsOn && end < length && sortOf(bytes[end]) == sort) {
                end++;
            }
        }

        private static int sortOf(int c) {
            if (c >= 'a' && c <= 'z') {
                return WORD;
            }
            if (c >= '0' && c <= '9') {
                return NUMBER;
            }
            return c == ';' ? STOP : WRONG;
        }
    }

    /** Always in lowest terms, below above 0. */
    private static final class Fraction {
        long above = 0;
        long below = 1;

        void become(long newAbove, long newBelow) {
            if (newAbove < 0 || newBelow <= 0) {
                return;
            }
            long common = commonDivisor(newAbove, newBelow);
            above = newAbove / common;
            below = newBelow / common;
        }

        /** Not 0, as b is not: Euclid's way ends long before the bound. */
        private static long commonDivisor(long a, long b) {
            long greater = a;
            long less = b;
            for (int i = 0; i < 200 && less != 0; i++) {
                long rest = greater % less;
                greater = less;
                less = rest;
            }
            return greater > 0 ? greater : 1;
        }
    }
}
