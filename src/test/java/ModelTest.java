import java.math.BigInteger;
import java.util.ArrayDeque;
import java.util.ArrayList;
import java.util.Arrays;
import java.util.Deque;
import java.util.List;
import java.util.Random;
import java.util.regex.Matcher;
import java.util.regex.Pattern;

/**
 * Long runs of calls on the class and on a model of the document that is written another way:
 * who bears what is held by person, all rows of calls are played out, all trippers are told apart.
 */
public final class ModelTest {
    private static final int RUNS = 400;
    private static final int CALLS = 512;

    public static void main(String[] args) {
        for (int run = 0; run < RUNS && Due.wrong() < 20; run++) {
            new Run(run).go();
        }
        Due.end();
    }

    /** Who is where and bears what, on which day. */
    private static final class Scene {
        int day = 0;
        List<int[]> people = new ArrayList<>();

        Scene copy() {
            Scene s = new Scene();
            s.day = day;
            for (int[] one : people) {
                s.people.add(one.clone());
            }
            return s;
        }

        boolean anyBears(int name) {
            return people.stream().anyMatch(one -> one[2] == name);
        }

        int turners(int name, int place) {
            int bits = 0;
            for (int p = 0; p < people.size(); p++) {
                int[] one = people.get(p);
                if (turns(one[0], Math.abs(one[1] - place), one[2] == name, !anyBears(name), day)) {
                    bits |= 1 << p;
                }
            }
            return bits;
        }

        Scene behind(int name, int turners) {
            Scene s = copy();
            if (turners != 0) {
                for (int p = 0; p < people.size(); p++) {
                    if ((turners >> p & 1) == 1) {
                        s.people.get(p)[2] = name;
                    } else if (s.people.get(p)[2] == name) {
                        s.people.get(p)[2] = -1;
                    }
                }
            }
            return s;
        }

        Scene called(int row) {
            return behind(row / 10, turners(row / 10, row % 10));
        }

        int owners() {
            int n = 0;
            for (int p = 0; p < people.size(); p++) {
                n += people.get(p)[2] == p ? 1 : 0;
            }
            return n;
        }
    }

    private static boolean turns(int kind, int far, boolean o, boolean z, int d) {
        switch (kind) {
            case 0: return far < 4;
            case 1: return far < 4 && o;
            case 2: return far < 2;
            case 3: return far < 7;
            case 4: return far < 7 && (d & 1) == 0;
            default: return far < 4 && o || z && far < 7;
        }
    }

    private static final class State {
        Scene scene = new Scene();
        List<int[]> deeds = new ArrayList<>();
        List<int[]> notes = new ArrayList<>();
        Deque<Scene> past = new ArrayDeque<>();

        State copy() {
            State s = new State();
            s.scene = scene.copy();
            s.deeds.addAll(deeds);
            s.notes.addAll(notes);
            s.past.addAll(past);
            return s;
        }
    }

    private static final class Model {
        State now = new State();
        State[] images = new State[2];
        StringBuilder text = new StringBuilder();
        BigInteger above = BigInteger.ZERO;
        BigInteger below = BigInteger.ONE;
        int[] refused = new int[3];

        int refuse(int reason) {
            refused[-2 - reason]++;
            return reason;
        }

        int size() {
            return now.scene.people.size();
        }

        boolean out(int v, int bound) {
            return v < 0 || v >= bound;
        }

        boolean absent(int p) {
            return out(p, size());
        }

        void keep() {
            now.past.addLast(now.scene.copy());
            if (now.past.size() > 8) {
                now.past.removeFirst();
            }
        }

        void fraction(BigInteger a, BigInteger b) {
            BigInteger g = a.gcd(b);
            above = a.divide(g);
            below = b.divide(g);
        }

        long answer(String call, int[] a) {
            switch (call) {
                case "hamlet": return hamlet(a[0]);
                case "one": return one(a[0], a[1]);
                case "type": return type(a[0]);
                case "clear": return clear();
                case "read": return read();
                case "call": return call(a[0], a[1]);
                case "goes": return goes(a[0], a[1]);
                case "day": keep(); return ++now.scene.day;
                case "undo": return undo();
                case "of": return of(a[0], a[1]);
                case "turn": return absent(a[0]) || out(a[1], 10) ? refuse(-2) : now.scene.turners(a[0], a[1]);
                case "bearers": return absent(a[0]) ? refuse(-2) : bearers(now.scene, a[0]);
                case "names": return names(a[0]);
                case "calls": return calls(a[0], a[1], a[2]);
                case "own": return own(a[0]);
                case "ring": return ring(a[0]);
                default: return answerMore(call, a);
            }
        }

        long answerMore(String call, int[] a) {
            switch (call) {
                case "deed": return deed(a[0], a[1]);
                case "owes": return owes(a[0]);
                case "unpaid": return unpaid();
                case "ears": return ears(a[0], a[1], a[2], a[3]);
                case "note": return note(a);
                case "forget": return forget(a[0]);
                case "is": return is(a[0]);
                case "stood": return absent(a[0]) ? refuse(-2) : stood(a[0]);
                case "next": return next(a[0]);
                case "trippers": return trippers(a[0], a[1], a[2], a[3]);
                case "weeks": return weeks(a[0], a[1]);
                case "part": return out(a[0], 2) ? refuse(-2) : (a[0] == 0 ? above : below).longValueExact();
                case "image": return image(a[0]);
                case "from": return from(a[0]);
                case "status": return status(a[0]);
                case "count": return out(a[0], 7) ? refuse(-2) : count(a[0]);
                default: return digest();
            }
        }

        int hamlet(int day) {
            if (out(day, 100)) {
                return refuse(-2);
            }
            int were = size();
            now = new State();
            now.scene.day = day;
            return were;
        }

        int one(int kind, int place) {
            if (out(kind, 6) || out(place, 10)) {
                return refuse(-2);
            }
            if (size() == 7) {
                return refuse(-4);
            }
            now.scene.people.add(new int[] {kind, place, size()});
            now.past.clear();
            return size() - 1;
        }

        int type(int c) {
            if (out(c, 128)) {
                return refuse(-2);
            }
            if (text.length() == 150) {
                return refuse(-4);
            }
            return text.append((char) c).length();
        }

        int clear() {
            int had = text.length();
            text.setLength(0);
            return had;
        }

        /** All tokens first, then a word of the grammar at a time. */
        int read() {
            List<String> tokens = new ArrayList<>();
            List<Integer> places = new ArrayList<>();
            Matcher m = Pattern.compile(" +|[a-z]+|[0-9]+|[^ a-z0-9]", Pattern.DOTALL).matcher(text);
            while (m.find()) {
                if (m.group().charAt(0) != ' ') {
                    tokens.add(m.group());
                    places.add(m.start());
                }
            }
            State told = new State();
            int items = 0;
            int i = 0;
            while (i < tokens.size() || items == 0) {
                int[] stop = {i};
                if (!item(told, tokens, stop, items == 0)) {
                    return -10 - (stop[0] < places.size() ? places.get(stop[0]) : text.length());
                }
                i = stop[0];
                items++;
            }
            now = told;
            return items;
        }

        /** at[0] goes on to the token behind the item, or to the one that can not stand there. */
        boolean item(State told, List<String> tokens, int[] at, boolean first) {
            String word = at[0] < tokens.size() ? tokens.get(at[0]) : "";
            List<int[]> people = told.scene.people;
            int[] bounds;
            switch (word) {
                case "hamlet": bounds = first ? new int[] {100} : null; break;
                case "one": bounds = first || people.size() == 7 ? null : new int[] {6, 10}; break;
                case "bears": bounds = first ? null : new int[] {people.size(), people.size()}; break;
                case "none": bounds = first ? null : new int[] {people.size()}; break;
                default: bounds = null;
            }
            if (bounds == null) {
                return false;
            }
            at[0]++;
            int[] v = new int[bounds.length];
            for (int i = 0; i < bounds.length; i++, at[0]++) {
                String token = at[0] < tokens.size() ? tokens.get(at[0]) : "";
                if (!token.matches("[0-9]{1,2}") || Integer.parseInt(token) >= bounds[i]) {
                    return false;
                }
                v[i] = Integer.parseInt(token);
            }
            if (at[0] >= tokens.size() || !tokens.get(at[0]).equals(";")) {
                return false;
            }
            at[0]++;
            switch (word) {
                case "hamlet": told.scene.day = v[0]; break;
                case "one": people.add(new int[] {v[0], v[1], people.size()}); break;
                case "bears": people.get(v[0])[2] = v[1]; break;
                default: people.get(v[0])[2] = -1;
            }
            return true;
        }

        int call(int name, int place) {
            if (absent(name) || out(place, 10)) {
                return refuse(-2);
            }
            keep();
            int turners = now.scene.turners(name, place);
            now.scene = now.scene.behind(name, turners);
            return turners;
        }

        int goes(int p, int place) {
            if (absent(p) || out(place, 10)) {
                return refuse(-2);
            }
            keep();
            int was = now.scene.people.get(p)[1];
            now.scene.people.get(p)[1] = place;
            return was;
        }

        int undo() {
            if (now.past.isEmpty()) {
                return refuse(-3);
            }
            // an image may keep the same past
            now.scene = now.past.removeLast().copy();
            return now.scene.day;
        }

        int of(int p, int what) {
            if (absent(p) || out(what, 3)) {
                refuse(-2);
                return -10;
            }
            return now.scene.people.get(p)[what];
        }

        int bearers(Scene scene, int name) {
            int bits = 0;
            for (int p = 0; p < scene.people.size(); p++) {
                bits |= scene.people.get(p)[2] == name ? 1 << p : 0;
            }
            return bits;
        }

        int names(int what) {
            if (out(what, 2)) {
                return refuse(-2);
            }
            int bits = 0;
            for (int name = 0; name < size(); name++) {
                int many = Integer.bitCount(bearers(now.scene, name));
                bits |= (what == 0 ? many < 1 : many > 1) ? 1 << name : 0;
            }
            return bits;
        }

        int calls(int p, int name, int what) {
            if (absent(p) || absent(name) || out(what, 2)) {
                return refuse(-2);
            }
            if (now.scene.people.get(p)[2] == name) {
                return what == 0 ? 0 : -1;
            }
            for (int row = 0; row < 10 * size(); row++) {
                if (now.scene.called(row).people.get(p)[2] == name) {
                    return what == 0 ? 1 : row;
                }
            }
            for (int row = 0; row < 10 * size(); row++) {
                Scene once = now.scene.called(row);
                for (int last = 0; last < 10 * size(); last++) {
                    if (once.called(last).people.get(p)[2] == name) {
                        return what == 0 ? 2 : row;
                    }
                }
            }
            return -1;
        }

        int own(int what) {
            if (out(what, 3)) {
                return refuse(-2);
            }
            int[] most = new int[3];
            int[] first = {-1, -1, -1};
            most[0] = now.scene.owners();
            for (int row = 0; row < 10 * size(); row++) {
                Scene once = now.scene.called(row);
                if (first[1] < 0 || once.owners() > most[1]) {
                    most[1] = once.owners();
                    first[1] = row;
                }
                for (int last = 0; last < 10 * size(); last++) {
                    int n = once.called(last).owners();
                    if (first[2] < 0 || n > most[2]) {
                        most[2] = n;
                        first[2] = row;
                    }
                }
            }
            int best = Math.max(most[0], Math.max(most[1], most[2]));
            int fewest = most[0] == best ? 0 : most[1] == best ? 1 : 2;
            return what == 0 ? fewest : what == 1 ? best : first[fewest];
        }

        int ring(int p) {
            if (absent(p)) {
                return refuse(-2);
            }
            int at = p;
            for (int steps = 1; steps < 50; steps++) {
                at = now.scene.people.get(at)[2];
                if (at < 0) {
                    return 0;
                }
                if (at == p) {
                    return steps;
                }
            }
            return 0;
        }

        int deed(int name, int pence) {
            if (absent(name) || pence < 1 || pence > 60) {
                return refuse(-2);
            }
            if (now.deeds.size() == 6) {
                return refuse(-4);
            }
            now.deeds.add(new int[] {name, pence});
            return now.deeds.size();
        }

        int owes(int p) {
            if (absent(p)) {
                return refuse(-2);
            }
            int name = now.scene.people.get(p)[2];
            int sum = now.deeds.stream().filter(d -> d[0] == name).mapToInt(d -> d[1]).sum();
            long bear = now.scene.people.stream().filter(one -> one[2] == name).count();
            fraction(BigInteger.valueOf(name < 0 ? 0 : sum), BigInteger.valueOf(name < 0 ? 1 : bear));
            return 1;
        }

        int unpaid() {
            return now.deeds.stream().filter(d -> !now.scene.anyBears(d[0])).mapToInt(d -> d[1]).sum();
        }

        int ears(int a, int b, int name, int place) {
            if (absent(a) || absent(b) || a == b || absent(name) || out(place, 10)) {
                return refuse(-2);
            }
            int turners = now.scene.turners(name, place);
            boolean[][] gets = new boolean[4][];
            for (int pair = 0; pair < 4; pair++) {
                int t = turners;
                t &= (pair & 1) == 1 ? ~(1 << a) : ~0;
                t &= (pair & 2) == 2 ? ~(1 << b) : ~0;
                Scene s = now.scene.behind(name, t);
                gets[pair] = new boolean[] {s.people.get(a)[2] == name, s.people.get(b)[2] == name};
            }
            int bits = 0;
            for (int pair = 0; pair < 4; pair++) {
                boolean aWould = !gets[pair][0] && gets[pair ^ 1][0];
                boolean bWould = !gets[pair][1] && gets[pair ^ 2][1];
                bits |= aWould || bWould ? 0 : 1 << pair;
            }
            return bits;
        }

        int note(int[] n) {
            if (absent(n[0]) || out(n[1], 10) || out(n[2], 100) || out(n[3], 2) || out(n[4], 2)) {
                return refuse(-2);
            }
            if (now.notes.size() == 6) {
                return refuse(-4);
            }
            now.notes.add(n.clone());
            return now.notes.size();
        }

        int forget(int what) {
            if (out(what, 2)) {
                return refuse(-2);
            }
            List<int[]> gone = what == 0 ? now.deeds : now.notes;
            int were = gone.size();
            gone.clear();
            return were;
        }

        boolean fits(int p, int kind, int place) {
            return now.notes.stream().filter(n -> n[0] == p).allMatch(
                    n -> turns(kind, Math.abs(place - n[1]), n[3] == 1, false, n[2]) == (n[4] == 1));
        }

        int is(int p) {
            if (absent(p)) {
                return refuse(-2);
            }
            int bits = 0;
            for (int kind = 0; kind < 6; kind++) {
                bits |= fits(p, kind, now.scene.people.get(p)[1]) ? 1 << kind : 0;
            }
            return bits;
        }

        int stood(int p) {
            int bits = 0;
            for (int place = 0; place < 10; place++) {
                bits |= fits(p, now.scene.people.get(p)[0], place) ? 1 << place : 0;
            }
            return bits;
        }

        int next(int p) {
            if (absent(p)) {
                return refuse(-2);
            }
            int may = stood(p);
            int best = -1;
            int least = 99;
            for (int from = 9; from >= 0 && may != 0; from--) {
                int[] parts = new int[2];
                for (int place = 0; place < 10; place++) {
                    if ((may >> place & 1) == 1) {
                        boolean t = turns(now.scene.people.get(p)[0], Math.abs(from - place), false, false, now.scene.day);
                        parts[t ? 1 : 0]++;
                    }
                }
                if (Math.max(parts[0], parts[1]) <= least) {
                    least = Math.max(parts[0], parts[1]);
                    best = from;
                }
            }
            return best;
        }

        int trippers(int p, int name, int place, int c) {
            if (absent(p) || absent(name) || out(place, 10) || out(c, 11)) {
                return refuse(-2);
            }
            int turners = now.scene.turners(name, place);
            BigInteger sum = BigInteger.ZERO;
            for (int listen = 0; listen < 1 << size(); listen++) {
                if (now.scene.behind(name, turners & listen).people.get(p)[2] == name) {
                    int many = Integer.bitCount(listen);
                    sum = sum.add(BigInteger.valueOf(10 - c).pow(many).multiply(BigInteger.valueOf(c).pow(size() - many)));
                }
            }
            fraction(sum, BigInteger.TEN.pow(size()));
            return 1;
        }

        int weeks(int seed, int n) {
            if (out(seed, 1000000) || out(n, 61)) {
                return refuse(-2);
            }
            if (size() == 0) {
                return refuse(-3);
            }
            Scene s = now.scene;
            BigInteger x = BigInteger.valueOf(seed);
            for (int i = 0; i < n; i++) {
                x = x.multiply(BigInteger.valueOf(1103515245)).add(BigInteger.valueOf(12345)).mod(BigInteger.ONE.shiftLeft(31));
                s = s.called(10 * (x.shiftRight(16).intValue() % size()) + x.shiftRight(20).intValue() % 10);
            }
            return s.owners();
        }

        int image(int i) {
            if (out(i, 2)) {
                return refuse(-2);
            }
            images[i] = now.copy();
            return 1;
        }

        int from(int i) {
            if (out(i, 2)) {
                return refuse(-2);
            }
            if (images[i] == null) {
                return refuse(-3);
            }
            now = images[i].copy();
            return 1;
        }

        int status(int what) {
            if (out(what, 3)) {
                refuse(-2);
                return -1;
            }
            return refused[what];
        }

        int count(int what) {
            return new int[] {size(), now.scene.day, now.scene.owners(), now.deeds.size(), now.notes.size(),
                now.past.size(), text.length()}[what];
        }

        long digest() {
            List<Long> values = new ArrayList<>();
            for (int what = 0; what < 7; what++) {
                values.add((long) count(what));
            }
            for (List<int[]> rows : List.of(now.scene.people, now.deeds, now.notes)) {
                rows.forEach(row -> Arrays.stream(row).forEach(v -> values.add((long) v)));
            }
            values.add(above.longValueExact());
            values.add(below.longValueExact());
            long h = 1201;
            for (long v : values) {
                h = 31 * h + v;
            }
            return h;
        }
    }

    private static long answer(LastCalled x, String call, int[] a) {
        switch (call) {
            case "hamlet": return x.hamlet(a[0]);
            case "one": return x.one(a[0], a[1]);
            case "type": return x.type(a[0]);
            case "clear": return x.clear();
            case "read": return x.read();
            case "call": return x.call(a[0], a[1]);
            case "goes": return x.goes(a[0], a[1]);
            case "day": return x.day();
            case "undo": return x.undo();
            case "of": return x.of(a[0], a[1]);
            case "turn": return x.turn(a[0], a[1]);
            case "bearers": return x.bearers(a[0]);
            case "names": return x.names(a[0]);
            case "calls": return x.calls(a[0], a[1], a[2]);
            case "own": return x.own(a[0]);
            case "ring": return x.ring(a[0]);
            case "deed": return x.deed(a[0], a[1]);
            case "owes": return x.owes(a[0]);
            case "unpaid": return x.unpaid();
            case "ears": return x.ears(a[0], a[1], a[2], a[3]);
            case "note": return x.note(a[0], a[1], a[2], a[3], a[4]);
            case "forget": return x.forget(a[0]);
            case "is": return x.is(a[0]);
            case "stood": return x.stood(a[0]);
            case "next": return x.next(a[0]);
            case "trippers": return x.trippers(a[0], a[1], a[2], a[3]);
            case "weeks": return x.weeks(a[0], a[1]);
            case "part": return x.part(a[0]);
            case "image": return x.image(a[0]);
            case "from": return x.from(a[0]);
            case "status": return x.status(a[0]);
            case "count": return x.count(a[0]);
            default: return x.digest();
        }
    }

    /** One run of calls, the same for the same number. */
    private static final class Run {
        static final String[] CHANGES = {"one", "call", "call", "call", "goes", "day", "undo", "deed", "note", "note",
            "forget", "image", "from", "hamlet"};
        static final String[] QUESTIONS = {"of", "turn", "bearers", "names", "calls", "calls", "own", "ring", "owes",
            "unpaid", "ears", "ears", "is", "stood", "next", "trippers", "weeks", "part", "status", "count", "digest"};
        final int number;
        final Random random;
        final LastCalled x = new LastCalled();
        final Model model = new Model();
        final List<String> log = new ArrayList<>();
        int made = 0;
        boolean same = true;

        Run(int number) {
            this.number = number;
            this.random = new Random(number);
        }

        void go() {
            while (made < CALLS - 170 && same) {
                if (random.nextInt(40) == 0) {
                    tell();
                } else if (model.size() < 2 && random.nextInt(2) == 0) {
                    ask("one");
                } else {
                    ask(random.nextInt(2) == 0 ? pick(CHANGES) : pick(QUESTIONS));
                }
                ask("digest");
            }
            for (int what = 0; what < 7; what++) {
                ask("status", what % 4);
                ask("count", what);
            }
        }

        String pick(String[] names) {
            String name = names[random.nextInt(names.length)];
            // a new hamlet at every turn would leave no long runs
            return name.equals("hamlet") && random.nextInt(8) != 0 ? "call" : name;
        }

        void ask(String call, int... given) {
            int[] a = given.length > 0 ? given : arguments(call);
            long want = model.answer(call, a);
            long got = answer(x, call, a);
            made++;
            log.add(call + Arrays.toString(a));
            Due.is("run " + number + ", call " + made + ", " + call + Arrays.toString(a), got, want);
            if (got != want && same) {
                same = false;
                System.out.println("  behind " + log.subList(Math.max(0, log.size() - 40), log.size()));
            }
        }

        int near(int bound) {
            int r = random.nextInt(60);
            if (r == 0) {
                return random.nextInt();
            }
            return r == 1 ? -1 : r == 2 ? bound : r == 3 ? bound - 1 : random.nextInt(Math.max(1, bound));
        }

        int person() {
            return near(model.size());
        }

        int[] arguments(String call) {
            switch (call) {
                case "hamlet": return new int[] {near(100)};
                case "one": return new int[] {near(6), near(10)};
                case "type": return new int[] {near(128)};
                case "call": case "goes": case "turn": return new int[] {person(), near(10)};
                case "of": return new int[] {person(), near(3)};
                case "bearers": case "ring": case "owes": case "is": case "stood": case "next":
                    return new int[] {person()};
                case "names": case "forget": case "part": case "image": case "from": return new int[] {near(2)};
                case "calls": return new int[] {person(), person(), near(2)};
                case "own": case "status": return new int[] {near(3)};
                case "deed": return new int[] {person(), near(61)};
                case "ears": return new int[] {person(), person(), person(), near(10)};
                case "note": return new int[] {person(), near(10), near(100), near(2), near(2)};
                case "trippers": return new int[] {person(), person(), near(10), near(11)};
                case "weeks": return new int[] {near(1000000), near(61)};
                case "count": return new int[] {near(7)};
                default: return new int[0];
            }
        }

        void tell() {
            if (random.nextInt(6) != 0) {
                ask("clear");
            }
            String text = text();
            for (int i = 0; i < text.length() && same; i++) {
                ask("type", text.charAt(i));
            }
            ask("read");
        }

        /** Most often a hamlet that is as told; else one with something put in, left out or doubled. */
        String text() {
            StringBuilder s = new StringBuilder("hamlet ").append(random.nextInt(100)).append(';');
            int people = 0;
            int items = random.nextInt(15);
            for (int i = 0; i < items; i++) {
                int sort = random.nextInt(4);
                if (sort < 2 || people == 0) {
                    s.append("one ").append(random.nextInt(6)).append(' ').append(random.nextInt(10)).append(';');
                    people++;
                } else if (sort == 2) {
                    s.append("bears ").append(random.nextInt(people)).append(' ').append(random.nextInt(people)).append(';');
                } else {
                    s.append("none ").append(random.nextInt(people)).append(random.nextInt(5) == 0 ? " ;" : ";");
                }
            }
            for (int faults = random.nextInt(5) - 2; faults > 0; faults--) {
                int at = random.nextInt(s.length());
                String signs = "  ;;0123456789aehlmnorst-A\n";
                switch (random.nextInt(3)) {
                    case 0: s.insert(at, signs.charAt(random.nextInt(signs.length()))); break;
                    case 1: s.setCharAt(at, signs.charAt(random.nextInt(signs.length()))); break;
                    default: s.setLength(Math.max(1, at));
                }
            }
            return s.substring(0, Math.min(s.length(), 155));
        }
    }
}
