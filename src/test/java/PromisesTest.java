/** Each promise of the document by itself: ordinary inputs, edges, and what is refused. */
public final class PromisesTest extends Hamlets {
    private static final int[] FAR_OFF = {Integer.MIN_VALUE, -11, -2, -1, 1000, Integer.MAX_VALUE};

    public static void main(String[] args) {
        newObject();
        hamlet();
        one();
        typeAndClear();
        readWhole();
        readFaults();
        readTakesThePlaceOfAll();
        kinds();
        call();
        goes();
        day();
        undo();
        of();
        turn();
        bearersAndNames();
        calls();
        own();
        ring();
        deeds();
        ears();
        notes();
        isAndStood();
        next();
        trippers();
        weeks();
        part();
        images();
        status();
        count();
        digest();
        Due.end();
    }

    // ---- helpers

    /** That a refusal counted under its reason alone and changed nothing else. */
    private static void refused(String what, LastCalled x, long before, int bad, int no, int full) {
        Due.is(what + ": BAD", x.status(0), bad);
        Due.is(what + ": NO", x.status(1), no);
        Due.is(what + ": FULL", x.status(2), full);
        Due.is(what + ": digest", x.digest(), before);
    }

    // ---- promises 1 to 6

    private static void newObject() {
        LastCalled x = new LastCalled();
        for (int what = 0; what <= 6; what++) {
            Due.is("1 count(" + what + ")", x.count(what), 0);
        }
        for (int what = 0; what <= 2; what++) {
            Due.is("1 status(" + what + ")", x.status(what), 0);
        }
        fraction("1", x, 0, 1);
        Due.is("1 undo", x.undo(), LastCalled.NO);
        Due.is("1 from(0)", x.from(0), LastCalled.NO);
        Due.is("1 from(1)", x.from(1), LastCalled.NO);
        Due.is("1 status(1)", x.status(1), 3);
        LastCalled other = new LastCalled();
        x.one(PLAIN, 0);
        Due.is("1 another object is another hamlet", other.count(0), 0);
    }

    private static void hamlet() {
        LastCalled x = told("hamlet 7;one 0 1;one 3 5;none 0;");
        x.deed(0, 10);
        x.note(1, 0, 0, 0, 1);
        x.deed(1, 3);
        x.owes(1);
        x.call(0, 3);
        x.image(1);
        x.undo();
        x.undo();
        Due.is("2 hamlet(99)", x.hamlet(99), 2);
        Due.is("2 people", x.count(0), 0);
        Due.is("2 day", x.count(1), 99);
        Due.is("2 deeds", x.count(3), 0);
        Due.is("2 notes", x.count(4), 0);
        Due.is("2 undone", x.count(5), 0);
        Due.is("2 text stays", x.count(6), 32);
        fraction("2 stays", x, 3, 1);
        Due.is("2 status stays", x.status(1), 1);
        Due.is("2 image stays", x.from(1), 1);
        Due.is("2 people of the image", x.count(0), 2);
        Due.is("2 hamlet(0)", x.hamlet(0), 2);
        Due.is("2 day 0", x.count(1), 0);
        Due.is("2 one bears the own name anew", x.one(PLAIN, 4), 0);
        Due.is("2 name", x.of(0, 2), 0);
        Due.is("2 names", x.names(0), 0);
        long before = x.digest();
        Due.is("2 hamlet(-1)", x.hamlet(-1), LastCalled.BAD);
        Due.is("2 hamlet(100)", x.hamlet(100), LastCalled.BAD);
        refused("2", x, before, 2, 1, 0);
    }

    private static void one() {
        LastCalled x = new LastCalled();
        for (int p = 0; p < 7; p++) {
            Due.is("3 one " + p, x.one(p % 6, p + 3), p);
            Due.is("3 kind", x.of(p, 0), p % 6);
            Due.is("3 place", x.of(p, 1), p + 3);
            Due.is("3 name", x.of(p, 2), p);
            x.day();
        }
        long before = x.digest();
        Due.is("3 the 8th", x.one(PLAIN, 0), LastCalled.FULL);
        Due.is("3 BAD is ahead of FULL", x.one(6, 0), LastCalled.BAD);
        Due.is("3 place 10", x.one(0, 10), LastCalled.BAD);
        Due.is("3 kind -1", x.one(-1, 0), LastCalled.BAD);
        Due.is("3 place -1", x.one(0, -1), LastCalled.BAD);
        refused("3", x, before, 4, 0, 1);
        Due.is("3 a refused one leaves what may be undone", x.undo(), 6);
    }

    private static void typeAndClear() {
        LastCalled x = new LastCalled();
        Due.is("5 clear of none", x.clear(), 0);
        Due.is("4 type(0)", x.type(0), 1);
        Due.is("4 type(127)", x.type(127), 2);
        long before = x.digest();
        Due.is("4 type(128)", x.type(128), LastCalled.BAD);
        Due.is("4 type(-1)", x.type(-1), LastCalled.BAD);
        refused("4", x, before, 2, 0, 0);
        for (int n = 3; n <= 150; n++) {
            Due.is("4 type", x.type('x'), n);
        }
        before = x.digest();
        Due.is("4 the 151st", x.type('x'), LastCalled.FULL);
        Due.is("4 BAD is ahead of FULL", x.type(200), LastCalled.BAD);
        refused("4 full", x, before, 3, 0, 1);
        Due.is("5 clear", x.clear(), 150);
        Due.is("5 count(6)", x.count(6), 0);
        Due.is("5 clear again", x.clear(), 0);
        Due.is("5 type goes on", x.type(';'), 1);
    }

    private static void readWhole() {
        LastCalled x = new LastCalled();
        Due.is("6 hamlet alone", read(x, "hamlet 42;"), 1);
        Due.is("6 its day", x.count(1), 42);
        Due.is("6 nobody", x.count(0), 0);
        Due.is("6 blanks", read(x, "  hamlet   5 ;  one  5   9  ; none 0;one 0 0;bears 0 1 ; "), 5);
        Due.is("6 day", x.count(1), 5);
        Due.is("6 kind", x.of(0, 0), 5);
        Due.is("6 place", x.of(0, 1), 9);
        Due.is("6 bears", x.of(0, 2), 1);
        Due.is("6 the own name", x.of(1, 2), 1);
        Due.is("6 no blanks but between numbers", read(x, "hamlet99;one4 2;bears0 0;none0;"), 4);
        Due.is("6 none", x.of(0, 2), LastCalled.NONE);
        Due.is("6 two figures", read(x, "hamlet 00;one 05 09;bears 00 00;"), 3);
        Due.is("6 the same text again", x.read(), 3);
        Due.is("6 seven", read(x, "hamlet 0;one 0 0;one 0 1;one 0 2;one 0 3;one 0 4;one 0 5;one 0 6;bears 6 0;"), 9);
        Due.is("6 seven there", x.count(0), 7);
        Due.is("6 the last bears the first's", x.bearers(0), 65);
        read(x, "hamlet 0;one 0 0;one 0 0;none 0;");
        Due.is("6 nothing is left of a hamlet told before", read(x, "hamlet 0;one 0 0;"), 2);
        Due.is("6 its name", x.of(0, 2), 0);
        String full = "hamlet 1;one 0 0;";
        Due.is("6 150 bytes", read(x, full + " ".repeat(150 - full.length())), 2);
        Due.is("6 nothing refused", x.status(0) + x.status(1) + x.status(2), 0);
    }

    private static void fault(String text, int at) {
        LastCalled x = told("hamlet 3;one 3 5;one 0 4;none 1;");
        x.deed(0, 5);
        x.note(0, 1, 2, 0, 1);
        x.call(0, 9);
        x.clear();
        type(x, text);
        long before = x.digest();
        Due.is("6 read of \"" + text + "\"", x.read(), -10 - at);
        refused("6 \"" + text + "\"", x, before, 0, 0, 0);
        Due.is("6 all may be undone still", x.undo(), 3);
    }

    private static void readFaults() {
        fault("", 0);
        fault("   ", 3);
        fault("ham", 0);
        fault("hamlet", 6);
        fault("hamlet ", 7);
        fault("hamlet 5", 8);
        fault("hamlet 5 ", 9);
        fault("Hamlet 5;", 0);
        fault("hamlet\t5;", 6);
        fault("hamletx 5;", 0);
        fault(" one 0 0;hamlet 5;", 1);
        fault(";hamlet 5;", 0);
        fault("5;", 0);
        fault("hamlet 100;", 7);
        fault("hamlet 005", 7);
        fault("hamlet ;", 7);
        fault("hamlet five;", 7);
        fault("hamlet 5 5;", 9);
        fault("hamlet 5,one 0 0;", 8);
        fault("hamlet 5;hamlet 5;", 9);
        fault("hamlet 5;one 0 0;  hamlet 5;", 19);
        fault("hamlet 5;two 0 0;", 9);
        fault("hamlet 5;;", 9);
        fault("hamlet 5;7", 9);
        fault("hamlet 5;one 6 0;", 13);
        fault("hamlet 5;one 0 10;", 15);
        fault("hamlet 5;one 10 0;", 13);
        fault("hamlet 5;one 000 0;", 13);
        fault("hamlet 5;one 0;", 14);
        fault("hamlet 5;one 0 0 0;", 17);
        fault("hamlet 5;one 0 0", 16);
        fault("hamlet 5;one 0 0;on", 17);
        fault("hamlet 5;one 0 0;one", 20);
        fault("hamlet 5;bears 0 0;", 15);
        fault("hamlet 5;none 0;", 14);
        fault("hamlet 5;one 0 0;bears 1 0;one 0 0;", 23);
        fault("hamlet 5;one 0 0;bears 0 1;one 0 0;", 25);
        fault("hamlet 5;one 0 0;none 1;", 22);
        fault("hamlet 5;one 0 0;none 0 0;", 24);
        fault("hamlet 5;one 0 0;none none;", 22);
        fault("hamlet 5;one 0 0;bears 0;", 24);
        fault("hamlet 5;one 0 0;!", 17);
        fault("hamlet 5;pne 0 0;", 9);
        fault("hamlet 5;onz 0 0;", 9);
        fault("hamlet 5;" + " ".repeat(140) + "5", 149);
        fault("hamlet 5;" + " ".repeat(138) + "one", 150);
        fault("hamlet " + " ".repeat(141) + "55", 150);
        String seven = "hamlet 0;one 0 0;one 0 1;one 0 2;one 0 3;one 0 4;one 0 5;one 0 6;";
        fault(seven + "one 9 9;", seven.length());
        fault(seven + "one", seven.length());
        fault(seven + "bears 7 0;", seven.length() + 6);
    }

    private static void readTakesThePlaceOfAll() {
        LastCalled x = told("hamlet 3;one 3 5;one 0 4;none 1;");
        x.deed(0, 5);
        x.note(0, 1, 2, 0, 1);
        x.call(0, 9);
        x.image(0);
        x.owes(0);
        x.undo();
        x.day();
        x.call(9, 9);
        Due.is("6 read", read(x, "hamlet 8;one 2 2;"), 2);
        long[] due = {1, 8, 1, 0, 0, 0, 17};
        for (int what = 0; what <= 6; what++) {
            Due.is("6 count(" + what + ")", x.count(what), due[what]);
        }
        fraction("6 stays", x, 5, 1);
        Due.is("6 status stays", x.status(0), 1);
        Due.is("6 image stays", x.from(0), 1);
        Due.is("6 people of the image", x.count(0), 2);
    }

    // ---- promises 7 to 14

    /** Of each kind the greatest distance at which one turns; -1: never. */
    private static void kinds() {
        turnsUpTo("own, even", 4, 0, true, new int[] {3, 3, 1, 6, 6, 3});
        turnsUpTo("own, odd", 5, 0, true, new int[] {3, 3, 1, 6, -1, 3});
        turnsUpTo("another's, even", 4, 1, true, new int[] {3, -1, 1, 6, 6, -1});
        turnsUpTo("another's, odd", 5, 1, true, new int[] {3, -1, 1, 6, -1, -1});
        turnsUpTo("nobody's, even", 4, 1, false, new int[] {3, -1, 1, 6, 6, 6});
        turnsUpTo("nobody's, odd", 5, 1, false, new int[] {3, -1, 1, 6, -1, 6});
    }

    private static void turnsUpTo(String what, int day, int name, boolean borne, int[] due) {
        for (int kind = 0; kind < 6; kind++) {
            for (int at = 0; at < 10; at++) {
                LastCalled x = told("hamlet " + day + ";one " + kind + " " + at + ";one 1 0;" + (borne ? "" : "none 1;"));
                for (int place = 0; place < 10; place++) {
                    int turns = Math.abs(at - place) <= due[kind] ? 1 : 0;
                    Due.is("7 " + what + ", kind " + kind, x.turn(name, place) & 1, turns);
                }
            }
        }
    }

    private static void call() {
        LastCalled x = told("hamlet 0;one 0 0;one 0 2;one 0 9;one 5 8;");
        Due.is("7 two turn", x.call(2, 1), 3);
        Due.is("7 the first bears it", x.of(0, 2), 2);
        Due.is("7 the second bears it", x.of(1, 2), 2);
        Due.is("7 who bore it bears none", x.of(2, 2), LastCalled.NONE);
        Due.is("7 another stays", x.of(3, 2), 3);
        Due.is("7 firms", x.names(1), 4);
        Due.is("7 missing", x.names(0), 3);
        Due.is("7 by how all were ahead: the cliff turns at nobody's", x.call(0, 9), 12);
        Due.is("7 now the cliff bears it", x.of(3, 2), 0);
        Due.is("7 who bears it stays so and others turn", x.call(0, 8), 12);
        Due.is("7 three may be undone", x.count(5), 3);
        LastCalled y = told("hamlet 0;one 0 0;one 1 0;");
        Due.is("7 nobody turns", y.call(0, 9), 0);
        Due.is("7 all stays", y.of(0, 2), 0);
        Due.is("7 it may be undone", y.count(5), 1);
        long before = y.digest();
        Due.is("7 name 2", y.call(2, 0), LastCalled.BAD);
        Due.is("7 name -1", y.call(-1, 0), LastCalled.BAD);
        Due.is("7 place 10", y.call(0, 10), LastCalled.BAD);
        Due.is("7 place -1", y.call(0, -1), LastCalled.BAD);
        refused("7", y, before, 4, 0, 0);
    }

    private static void goes() {
        LastCalled x = told("hamlet 0;one 0 0;one 3 9;");
        Due.is("8 goes", x.goes(0, 9), 0);
        Due.is("8 goes back", x.goes(0, 0), 9);
        Due.is("8 to the same", x.goes(1, 9), 9);
        Due.is("8 place", x.of(0, 1), 0);
        Due.is("8 steps may be undone", x.count(5), 3);
        long before = x.digest();
        Due.is("8 nobody", x.goes(2, 0), LastCalled.BAD);
        Due.is("8 p -1", x.goes(-1, 0), LastCalled.BAD);
        Due.is("8 place 10", x.goes(0, 10), LastCalled.BAD);
        Due.is("8 place -1", x.goes(0, -1), LastCalled.BAD);
        refused("8", x, before, 4, 0, 0);
    }

    private static void day() {
        LastCalled x = new LastCalled();
        x.hamlet(99);
        Due.is("9 day", x.day(), 100);
        Due.is("9 day", x.day(), 101);
        Due.is("9 count(1)", x.count(1), 101);
        Due.is("9 count(5)", x.count(5), 2);
    }

    private static void undo() {
        LastCalled x = told("hamlet 6;one 0 0;one 0 9;");
        x.call(1, 0);
        x.goes(1, 4);
        x.day();
        Due.is("10 the day back", x.undo(), 6);
        Due.is("10 the step back", x.undo(), 6);
        Due.is("10 place", x.of(1, 1), 9);
        Due.is("10 name yet", x.of(0, 2), 1);
        Due.is("10 the call back", x.undo(), 6);
        Due.is("10 name", x.of(0, 2), 0);
        Due.is("10 who bore it", x.of(1, 2), 1);
        long before = x.digest();
        Due.is("10 no more", x.undo(), LastCalled.NO);
        refused("10", x, before, 0, 1, 0);
        for (int i = 0; i < 12; i++) {
            x.day();
            x.goes(0, i % 10);
        }
        Due.is("10 eight at most", x.count(5), 8);
        for (int i = 0; i < 8; i++) {
            Due.is("10 undo " + i, x.undo(), 18 - (i + 1) / 2);
        }
        Due.is("10 the ninth", x.undo(), LastCalled.NO);
        Due.is("10 place as of then", x.of(0, 1), 7);
        x.day();
        x.deed(0, 7);
        x.note(0, 1, 1, 1, 1);
        x.undo();
        Due.is("10 deeds stay", x.count(3), 1);
        Due.is("10 notes stay", x.count(4), 1);
        x.day();
        x.one(PLAIN, 0);
        Due.is("10 behind one that comes", x.count(5), 0);
        Due.is("10 none may be", x.undo(), LastCalled.NO);
        x.day();
        x.undo();
        x.day();
        Due.is("10 anew behind an undo", x.count(5), 1);
    }

    private static void of() {
        LastCalled x = told("hamlet 0;one 4 7;one 2 3;bears 1 0;none 0;");
        int[] due = {4, 7, LastCalled.NONE, 2, 3, 0};
        for (int i = 0; i < 6; i++) {
            Due.is("11 of(" + i / 3 + ", " + i % 3 + ")", x.of(i / 3, i % 3), due[i]);
        }
        long before = x.digest();
        Due.is("11 nobody", x.of(2, 0), -10);
        Due.is("11 p -1", x.of(-1, 0), -10);
        Due.is("11 what 3", x.of(0, 3), -10);
        Due.is("11 what -1", x.of(0, -1), -10);
        refused("11", x, before, 4, 0, 0);
    }

    private static void turn() {
        LastCalled x = told("hamlet 2;one 0 4;one 1 4;one 2 4;one 3 4;one 4 4;one 5 4;none 5;");
        long before = x.digest();
        Due.is("12 near, plain's name", x.turn(0, 4), 29);
        Due.is("12 near, careful's name", x.turn(1, 5), 31);
        Due.is("12 3 off, nobody's", x.turn(5, 7), 57);
        Due.is("12 3 off, careful's name", x.turn(1, 1), 27);
        Due.is("12 nothing changed", x.digest(), before);
        for (int wrong : FAR_OFF) {
            Due.is("12 name", x.turn(wrong, 0), LastCalled.BAD);
            Due.is("12 place", x.turn(0, wrong), LastCalled.BAD);
        }
        Due.is("12 name 6", x.turn(6, 0), LastCalled.BAD);
        Due.is("12 place 10", x.turn(0, 10), LastCalled.BAD);
        refused("12", x, before, 14, 0, 0);
    }

    private static void bearersAndNames() {
        LastCalled x = told("hamlet 0;one 0 0;one 0 0;one 0 0;one 0 0;bears 1 0;bears 2 0;none 3;");
        long before = x.digest();
        int[] due = {7, 0, 0, 0};
        for (int name = 0; name < 4; name++) {
            Due.is("13 bearers(" + name + ")", x.bearers(name), due[name]);
        }
        Due.is("14 missing", x.names(0), 14);
        Due.is("14 firms", x.names(1), 1);
        Due.is("13 name 4", x.bearers(4), LastCalled.BAD);
        Due.is("13 name -1", x.bearers(-1), LastCalled.BAD);
        Due.is("14 what 2", x.names(2), LastCalled.BAD);
        Due.is("14 what -1", x.names(-1), LastCalled.BAD);
        refused("13, 14", x, before, 4, 0, 0);
        LastCalled gone = told("hamlet 0;one 0 0;one 0 0;none 0;bears 1 0;");
        gone.hamlet(0);
        gone.one(CAREFUL, 0);
        Due.is("13 who is gone bears nothing", gone.bearers(0), 1);
        Due.is("14 one alone is no firm", told("hamlet 0;one 0 0;").names(1), 0);
        Due.is("14 nobody is there", new LastCalled().names(0), 0);
    }

    // ---- promises 15 to 17

    private static void calls() {
        LastCalled x = told("hamlet 0;one 0 9;one 1 0;one 0 0;one 5 6;");
        long before = x.digest();
        Due.is("15 borne already", x.calls(0, 0, 0), 0);
        Due.is("15 no first of none", x.calls(0, 0, 1), LastCalled.NONE);
        Due.is("15 one", x.calls(0, 2, 0), 1);
        Due.is("15 its place is the first", x.calls(0, 2, 1), 26);
        Due.is("15 careful never", x.calls(1, 0, 0), LastCalled.NONE);
        Due.is("15 careful has no first", x.calls(1, 0, 1), LastCalled.NONE);
        Due.is("15 the cliff's by two", x.calls(3, 2, 0), 2);
        Due.is("15 first the bearer loses it", x.calls(3, 2, 1), 0);
        Due.is("15 the cliff's by two, of the plain one's", x.calls(3, 0, 1), 16);
        Due.is("15 nothing changed", x.digest(), before);
        Due.is("15 p 4", x.calls(4, 0, 0), LastCalled.BAD);
        Due.is("15 name 4", x.calls(0, 4, 0), LastCalled.BAD);
        Due.is("15 what 2", x.calls(0, 0, 2), LastCalled.BAD);
        Due.is("15 p -1", x.calls(-1, 0, 0), LastCalled.BAD);
        Due.is("15 name -1", x.calls(0, -1, 0), LastCalled.BAD);
        Due.is("15 what -1", x.calls(0, 0, -1), LastCalled.BAD);
        refused("15", x, before, 6, 0, 0);
        LastCalled sheep = told("hamlet 1;one 4 0;one 0 9;");
        Due.is("15 on this day", sheep.calls(0, 1, 0), LastCalled.NONE);
        sheep.day();
        Due.is("15 on the next", sheep.calls(0, 1, 1), 10);
    }

    private static void own() {
        LastCalled x = told("hamlet 0;one 0 0;one 0 9;");
        long before = x.digest();
        Due.is("16 no call", x.own(0), 0);
        Due.is("16 both", x.own(1), 2);
        Due.is("16 no first", x.own(2), LastCalled.NONE);
        Due.is("16 what 3", x.own(3), LastCalled.BAD);
        Due.is("16 what -1", x.own(-1), LastCalled.BAD);
        refused("16", x, before, 2, 0, 0);
        LastCalled one = told("hamlet 0;one 0 0;one 0 9;none 1;");
        Due.is("16 one call", one.own(0), 1);
        Due.is("16 both then", one.own(1), 2);
        Due.is("16 the first place that does", one.own(2), 16);
        LastCalled two = told("hamlet 0;one 0 0;one 0 9;bears 0 1;bears 1 0;");
        Due.is("16 two calls", two.own(0), 2);
        Due.is("16 both again", two.own(1), 2);
        Due.is("16 the first of the two", two.own(2), 0);
        LastCalled three = told("hamlet 0;one 0 0;one 0 5;one 0 9;none 0;none 1;none 2;");
        Due.is("16 two of three", three.own(1), 2);
        Due.is("16 by two calls", three.own(0), 2);
        LastCalled zero = told("hamlet 0;one 0 0;none 0;");
        Due.is("16 the very first call", zero.own(2), 0);
        LastCalled keeps = told("hamlet 0;one 0 0;one 1 0;one 0 9;none 2;");
        Due.is("16 a call for the far one alone", keeps.own(2), 26);
        Due.is("16 leaves the others theirs", keeps.own(1), 3);
        LastCalled lost = told("hamlet 0;one 1 0;none 0;");
        Due.is("16 no call helps", lost.own(0), 0);
        Due.is("16 none has it", lost.own(1), 0);
        Due.is("16 so none is first", lost.own(2), LastCalled.NONE);
        Due.is("16 nobody there", new LastCalled().own(1), 0);
    }

    private static void ring() {
        LastCalled x = told("hamlet 0;one 0 0;one 0 0;one 0 0;one 0 0;one 0 0;one 0 0;one 0 0;"
                + "bears 0 1;bears 1 2;bears 2 0;bears 3 0;none 4;bears 5 4;");
        int[] due = {3, 3, 3, 0, 0, 0, 1};
        long before = x.digest();
        for (int p = 0; p < 7; p++) {
            Due.is("17 ring(" + p + ")", x.ring(p), due[p]);
        }
        Due.is("17 p 7", x.ring(7), LastCalled.BAD);
        Due.is("17 p -1", x.ring(-1), LastCalled.BAD);
        refused("17", x, before, 2, 0, 0);
        LastCalled all = told("hamlet 0;one 0 0;one 0 0;one 0 0;one 0 0;one 0 0;one 0 0;one 0 0;"
                + "bears 0 1;bears 1 2;bears 2 3;bears 3 4;bears 4 5;bears 5 6;bears 6 0;");
        Due.is("17 all seven", all.ring(3), 7);
    }

    // ---- promises 18 to 21 and 23

    private static void deeds() {
        LastCalled x = told("hamlet 0;one 0 0;one 0 0;one 0 0;one 0 0;bears 1 0;bears 2 0;none 3;");
        x.day();
        Due.is("18 deed", x.deed(0, 1), 1);
        Due.is("18 deed of 60", x.deed(0, 60), 2);
        Due.is("18 on nobody's", x.deed(3, 40), 3);
        Due.is("18 on nobody's", x.deed(1, 2), 4);
        Due.is("18 it leaves what may be undone", x.count(5), 1);
        Due.is("20 unpaid", x.unpaid(), 42);
        Due.is("19 owes", x.owes(2), 1);
        fraction("19", x, 61, 3);
        x.deed(0, 8);
        x.owes(0);
        fraction("19 lowest terms", x, 23, 1);
        x.owes(3);
        fraction("19 bears none", x, 0, 1);
        x.owes(1);
        Due.is("18 the sixth", x.deed(2, 60), 6);
        long before = x.digest();
        Due.is("18 the seventh", x.deed(0, 1), LastCalled.FULL);
        Due.is("18 BAD is ahead of FULL", x.deed(0, 0), LastCalled.BAD);
        Due.is("18 61 pence", x.deed(0, 61), LastCalled.BAD);
        Due.is("18 name 4", x.deed(4, 1), LastCalled.BAD);
        Due.is("18 name -1", x.deed(-1, 1), LastCalled.BAD);
        Due.is("19 p 4", x.owes(4), LastCalled.BAD);
        Due.is("19 p -1", x.owes(-1), LastCalled.BAD);
        Due.is("20 unpaid", x.unpaid(), 102);
        Due.is("23 what 2", x.forget(2), LastCalled.BAD);
        Due.is("23 what -1", x.forget(-1), LastCalled.BAD);
        refused("18, 19, 23", x, before, 8, 0, 1);
        x.note(0, 0, 0, 0, 0);
        Due.is("23 forget deeds", x.forget(0), 6);
        Due.is("23 none there", x.count(3), 0);
        Due.is("23 notes stay", x.count(4), 1);
        Due.is("23 again", x.forget(0), 0);
        Due.is("20 none unpaid", x.unpaid(), 0);
        LastCalled first = told("hamlet 0;one 0 0;none 0;");
        first.deed(0, 9);
        Due.is("20 on the first name", first.unpaid(), 9);
        x.owes(0);
        fraction("19 no deeds", x, 0, 1);
        Due.is("18 anew", x.deed(3, 5), 1);
        Due.is("23 forget notes", x.forget(1), 1);
        Due.is("23 no notes", x.count(4), 0);
        Due.is("23 deeds stay", x.count(3), 1);
    }

    private static void ears() {
        LastCalled x = told("hamlet 0;one 0 0;one 0 0;one 0 9;");
        long before = x.digest();
        Due.is("21 another's: each rather turns", x.ears(0, 1, 2, 0), 1);
        Due.is("21 a's own: b turns, so a must", x.ears(0, 1, 0, 0), 1);
        Due.is("21 alone in hearing: b is all one", x.ears(0, 2, 0, 0), 1 | 4);
        Due.is("21 the other way round", x.ears(2, 0, 2, 0), 1 | 2);
        Due.is("21 a bears it and is far, b turns and takes it", x.ears(2, 1, 2, 0), 1 | 2);
        LastCalled y = told("hamlet 0;one 0 0;one 1 0;");
        Due.is("21 careful's: stops or not, while the other stops", y.ears(1, 0, 1, 0), 1);
        Due.is("21 nobody hears", y.ears(0, 1, 0, 9), 15);
        Due.is("21 its own, alone", y.ears(0, 1, 0, 0), 15);
        Due.is("21 a firm of two", told("hamlet 0;one 1 0;one 1 0;bears 1 0;").ears(0, 1, 0, 0), 1 | 8);
        LastCalled z = told("hamlet 0;one 0 0;one 1 9;one 0 0;");
        Due.is("21 a turns or not, b bears it far off", z.ears(0, 1, 1, 0), 1 | 4);
        Due.is("21 the bearer turns and no other may take it", told("hamlet 0;one 1 0;one 0 0;").ears(0, 1, 0, 0), 1);
        LastCalled few = told("hamlet 0;one 0 0;one 0 0;none 0;none 1;");
        Due.is("21 who stops them never has what nobody had", few.ears(0, 1, 0, 0), 1);
        Due.is("21 nothing changed", x.digest(), before);
        Due.is("21 alike", x.ears(1, 1, 0, 0), LastCalled.BAD);
        Due.is("21 a 3", x.ears(3, 0, 0, 0), LastCalled.BAD);
        Due.is("21 b 3", x.ears(0, 3, 0, 0), LastCalled.BAD);
        Due.is("21 name 3", x.ears(0, 1, 3, 0), LastCalled.BAD);
        Due.is("21 place 10", x.ears(0, 1, 0, 10), LastCalled.BAD);
        for (int wrong : FAR_OFF) {
            Due.is("21 a", x.ears(wrong, 0, 0, 0), LastCalled.BAD);
            Due.is("21 b", x.ears(0, wrong, 0, 0), LastCalled.BAD);
            Due.is("21 name", x.ears(0, 1, wrong, 0), LastCalled.BAD);
            Due.is("21 place", x.ears(0, 1, 0, wrong), LastCalled.BAD);
        }
        refused("21", x, before, 29, 0, 0);
    }

    // ---- promises 22 and 24 to 28

    private static void notes() {
        LastCalled x = told("hamlet 0;one 0 0;");
        x.day();
        Due.is("22 note", x.note(0, 0, 0, 0, 0), 1);
        Due.is("22 note at the edge", x.note(0, 9, 99, 1, 1), 2);
        for (int n = 3; n <= 6; n++) {
            Due.is("22 note", x.note(0, 0, 0, 0, 0), n);
        }
        Due.is("22 it leaves what may be undone", x.count(5), 1);
        long before = x.digest();
        Due.is("22 the seventh", x.note(0, 0, 0, 0, 0), LastCalled.FULL);
        Due.is("22 BAD is ahead of FULL", x.note(1, 0, 0, 0, 0), LastCalled.BAD);
        Due.is("22 x 10", x.note(0, 10, 0, 0, 0), LastCalled.BAD);
        Due.is("22 d 100", x.note(0, 0, 100, 0, 0), LastCalled.BAD);
        Due.is("22 bore 2", x.note(0, 0, 0, 2, 0), LastCalled.BAD);
        Due.is("22 turned 2", x.note(0, 0, 0, 0, 2), LastCalled.BAD);
        for (int wrong : FAR_OFF) {
            Due.is("22 p", x.note(wrong, 0, 0, 0, 0), LastCalled.BAD);
            Due.is("22 x", x.note(0, wrong, 0, 0, 0), LastCalled.BAD);
            Due.is("22 d", x.note(0, 0, wrong, 0, 0), LastCalled.BAD);
            Due.is("22 bore", x.note(0, 0, 0, wrong, 0), LastCalled.BAD);
            Due.is("22 turned", x.note(0, 0, 0, 0, wrong), LastCalled.BAD);
        }
        refused("22", x, before, 35, 0, 1);
    }

    private static void isAndStood() {
        LastCalled x = told("hamlet 0;one 0 5;one 5 5;");
        Due.is("24 no notes", x.is(0), 63);
        Due.is("25 no notes", x.stood(0), 1023);
        x.note(0, 8, 1, 0, 1);
        Due.is("24 3 off, another's, turned on an odd day", x.is(0), 1 | 8);
        Due.is("25 near 8", x.stood(0), 0b1111100000);
        Due.is("24 notes of another are none of one's", x.is(1), 63);
        Due.is("25 notes of another are none of one's", x.stood(1), 1023);
        x.note(0, 5, 2, 1, 1);
        Due.is("24 the own too", x.is(0), 1 | 8);
        Due.is("25 near both", x.stood(0), 0b0111100000);
        x.note(0, 9, 3, 0, 0);
        Due.is("24 not from 9", x.is(0), 1);
        Due.is("25 not near 9", x.stood(0), 0b0000100000);
        x.goes(0, 4);
        Due.is("24 from its place now", x.is(0), 0);
        Due.is("25 whatever its place", x.stood(0), 0b0000100000);
        x.note(1, 5, 0, 0, 0);
        Due.is("24 the cliff turns not at another's", x.is(1), 2 | 32);
        x.note(1, 2, 0, 1, 1);
        Due.is("24 but at its own", x.is(1), 2 | 32);
        Due.is("25 near 2, as a careful one", x.stood(1), 0b0000111111);
        long before = x.digest();
        for (int wrong : FAR_OFF) {
            Due.is("24 p", x.is(wrong), LastCalled.BAD);
            Due.is("25 p", x.stood(wrong), LastCalled.BAD);
        }
        Due.is("24 p 2", x.is(2), LastCalled.BAD);
        Due.is("25 p 2", x.stood(2), LastCalled.BAD);
        refused("24, 25", x, before, 14, 0, 0);
    }

    private static void next() {
        Due.is("26 cliff: somebody bears it, all are alike", told("hamlet 0;one 5 0;").next(0), 0);
        LastCalled cliff = told("hamlet 0;one 5 0;");
        cliff.note(0, 0, 0, 1, 1);
        Due.is("26 cliff, 0 to 3", cliff.next(0), 0);
        LastCalled x = told("hamlet 1;one 0 5;one 1 5;one 4 0;one 3 0;one 2 0;");
        Due.is("26 five of ten", x.next(0), 1);
        Due.is("26 careful: all are alike", x.next(1), 0);
        Due.is("26 sheep on an odd day", x.next(2), 0);
        Due.is("26 child: 7 of ten at least", x.next(3), 0);
        Due.is("26 deaf: 3 turn from the second place on", x.next(4), 1);
        x.note(0, 0, 0, 0, 1);
        x.note(0, 4, 0, 0, 1);
        Due.is("25 1 to 3", x.stood(0), 0b1110);
        Due.is("26 halves 1 to 3", x.next(0), 5);
        x.note(0, 5, 0, 0, 0);
        Due.is("26 one is left: the first place", x.next(0), 0);
        x.note(0, 9, 0, 0, 1);
        Due.is("26 none may be", x.next(0), LastCalled.NONE);
        x.note(2, 9, 0, 0, 1);
        Due.is("26 sheep, 3 to 9, on an odd day", x.next(2), 0);
        x.day();
        Due.is("26 sheep, 3 to 9, on an even day", x.next(2), 0);
        x.forget(1);
        x.note(2, 0, 0, 0, 1);
        Due.is("26 sheep, 0 to 6", x.next(2), 9);
        long before = x.digest();
        Due.is("26 p 5", x.next(5), LastCalled.BAD);
        Due.is("26 p -1", x.next(-1), LastCalled.BAD);
        refused("26", x, before, 2, 0, 0);
    }

    private static void trippers() {
        LastCalled x = told("hamlet 0;one 0 0;one 0 1;one 1 2;one 0 9;bears 2 0;");
        Due.is("27 trippers", x.trippers(1, 0, 0, 3), 1);
        fraction("27 bears it not", x, 7, 10);
        x.trippers(0, 0, 0, 3);
        fraction("27 bears it: or none of three listens", x, 727, 1000);
        x.trippers(0, 0, 0, 5);
        fraction("27 lowest terms", x, 5, 8);
        x.trippers(3, 0, 0, 5);
        fraction("27 far and bears it not", x, 0, 1);
        x.trippers(3, 3, 0, 5);
        fraction("27 far and bears it: none of two listens", x, 1, 4);
        x.trippers(0, 0, 0, 0);
        fraction("27 all listen", x, 1, 1);
        x.trippers(0, 0, 0, 10);
        fraction("27 none listens", x, 1, 1);
        x.trippers(1, 0, 0, 10);
        fraction("27 none listens, bears it not", x, 0, 1);
        LastCalled far = told("hamlet 0;one 0 9;one 0 9;");
        far.trippers(0, 0, 0, 0);
        fraction("27 nobody would turn: all stays", far, 1, 1);
        far.trippers(0, 1, 0, 7);
        fraction("27 nobody would turn", far, 0, 1);
        LastCalled seven = told("hamlet 0;one 0 0;one 0 0;one 0 0;one 0 0;one 0 0;one 0 0;one 0 0;");
        seven.trippers(0, 0, 0, 9);
        fraction("27 seven", seven, 5782969, 10000000);
        seven.trippers(1, 0, 0, 2);
        long before = seven.digest();
        for (int wrong : FAR_OFF) {
            Due.is("27 p", seven.trippers(wrong, 0, 0, 0), LastCalled.BAD);
            Due.is("27 name", seven.trippers(0, wrong, 0, 0), LastCalled.BAD);
            Due.is("27 place", seven.trippers(0, 0, wrong, 0), LastCalled.BAD);
            Due.is("27 c", seven.trippers(0, 0, 0, wrong), LastCalled.BAD);
        }
        Due.is("27 p 7", seven.trippers(7, 0, 0, 0), LastCalled.BAD);
        Due.is("27 name 7", seven.trippers(0, 7, 0, 0), LastCalled.BAD);
        Due.is("27 place 10", seven.trippers(0, 0, 10, 0), LastCalled.BAD);
        Due.is("27 c 11", seven.trippers(0, 0, 0, 11), LastCalled.BAD);
        refused("27", seven, before, 28, 0, 0);
        fraction("27 stays", seven, 4, 5);
    }

    private static void weeks() {
        LastCalled x = new LastCalled();
        long before = x.digest();
        Due.is("28 nobody is there", x.weeks(0, 0), LastCalled.NO);
        Due.is("28 BAD is ahead of NO", x.weeks(0, 61), LastCalled.BAD);
        Due.is("28 n -1", x.weeks(0, -1), LastCalled.BAD);
        Due.is("28 seed -1", x.weeks(-1, 0), LastCalled.BAD);
        Due.is("28 seed 1000000", x.weeks(1000000, 0), LastCalled.BAD);
        refused("28", x, before, 4, 1, 0);
        read(x, "hamlet 0;one 0 0;");
        Due.is("28 one alone", x.weeks(0, 60), 1);
        read(x, "hamlet 0;one 0 0;one 0 0;");
        before = x.digest();
        Due.is("28 no calls", x.weeks(0, 0), 2);
        // 12345 is left over: name 12345 / 65536 = 0, place 12345 / 1048576 = 0; both turn
        Due.is("28 one call", x.weeks(0, 1), 1);
        // 1103527590: name 16838 % 2 = 0, place 1052 % 10 = 2
        Due.is("28 seed 1", x.weeks(1, 1), 1);
        // 377401575: name 5758 % 3 = 1, place 359 % 10 = 9; only the one at 9 turns
        read(x, "hamlet 0;one 0 0;one 0 9;one 0 3;");
        Due.is("28 seed 3", x.weeks(3, 0), 3);
        Due.is("28 all as told by hand", x.weeks(999999, 60), byHand(x, 999999, 60));
        Due.is("28 all as told by hand", x.weeks(654321, 59), byHand(x, 654321, 59));
        Due.is("28 nothing changed", x.count(5), 0);
    }

    /** The same calls made one by one on the object, then taken back by an image. */
    private static int byHand(LastCalled x, int seed, int n) {
        x.image(1);
        java.math.BigInteger v = java.math.BigInteger.valueOf(seed);
        for (int i = 0; i < n; i++) {
            v = v.multiply(java.math.BigInteger.valueOf(1103515245)).add(java.math.BigInteger.valueOf(12345))
                    .mod(java.math.BigInteger.ONE.shiftLeft(31));
            x.call(v.shiftRight(16).intValue() % x.count(0), v.shiftRight(20).intValue() % 10);
        }
        int due = x.count(2);
        x.from(1);
        return due;
    }

    // ---- promises 29 to 34

    private static void part() {
        LastCalled x = told("hamlet 0;one 0 0;one 0 0;bears 1 0;");
        x.deed(0, 15);
        x.owes(0);
        long before = x.digest();
        Due.is("29 above", x.part(0), 15);
        Due.is("29 below", x.part(1), 2);
        Due.is("29 what 2", x.part(2), LastCalled.BAD);
        Due.is("29 what -1", x.part(-1), LastCalled.BAD);
        refused("29", x, before, 2, 0, 0);
    }

    private static void images() {
        LastCalled x = told("hamlet 4;one 0 0;one 0 9;");
        Due.is("31 none was kept", x.from(1), LastCalled.NO);
        x.deed(1, 9);
        x.note(1, 2, 3, 0, 1);
        x.call(1, 0);
        x.goes(0, 5);
        x.day();
        Due.is("30 image", x.image(1), 1);
        x.owes(0);
        long due = x.digest();
        x.undo();
        x.undo();
        x.undo();
        x.goes(0, 8);
        x.one(CHILD, 3);
        x.forget(0);
        x.forget(1);
        x.deed(0, 1);
        x.note(2, 0, 0, 1, 1);
        Due.is("31 from", x.from(1), 1);
        Due.is("31 all is as it was", x.digest(), due);
        Due.is("31 what may be undone too", x.undo(), 4);
        Due.is("31 the step", x.undo(), 4);
        Due.is("31 its place", x.of(0, 1), 0);
        Due.is("31 the call", x.undo(), 4);
        Due.is("31 who bore it", x.of(1, 2), 1);
        Due.is("31 no more", x.undo(), LastCalled.NO);
        Due.is("31 the other is not kept", x.from(0), LastCalled.NO);
        Due.is("31 it may be gone on from again", x.from(1), 1);
        Due.is("31 as it was", x.digest(), due);
        x.hamlet(1);
        x.image(0);
        x.from(1);
        Due.is("31 the other image is its own", x.digest(), due);
        x.clear();
        x.owes(1);
        x.type('a');
        x.from(0);
        Due.is("31 text stays", x.count(6), 1);
        fraction("31 stays", x, 0, 1);
        Due.is("31 status stays", x.status(1), 3);
        x.image(1);
        x.from(1);
        Due.is("30 a later one takes its place", x.count(0), 0);
        long before = x.digest();
        Due.is("30 i 2", x.image(2), LastCalled.BAD);
        Due.is("30 i -1", x.image(-1), LastCalled.BAD);
        Due.is("31 i 2", x.from(2), LastCalled.BAD);
        Due.is("31 i -1", x.from(-1), LastCalled.BAD);
        refused("30, 31", x, before, 4, 3, 0);
    }

    private static void status() {
        LastCalled x = new LastCalled();
        long before = x.digest();
        Due.is("32 what 3", x.status(3), -1);
        Due.is("32 what -1", x.status(-1), -1);
        refused("32", x, before, 2, 0, 0);
        x.one(PLAIN, 0);
        x.calls(0, 0, 1);
        x.read();
        x.ring(0);
        Due.is("32 NONE, a fault or 0 is no refusal", x.status(0) + x.status(1) + x.status(2), 2);
    }

    private static void count() {
        LastCalled x = told("hamlet 17;one 0 0;one 1 0;one 2 0;bears 0 1;none 2;");
        x.deed(0, 4);
        x.deed(0, 4);
        x.note(0, 1, 1, 1, 1);
        x.note(0, 1, 1, 1, 1);
        x.note(0, 1, 1, 1, 1);
        x.day();
        x.goes(0, 0);
        x.goes(0, 0);
        x.goes(0, 0);
        int[] due = {3, 18, 1, 2, 3, 4, 51};
        long before = x.digest();
        for (int what = 0; what <= 6; what++) {
            Due.is("33 count(" + what + ")", x.count(what), due[what]);
        }
        Due.is("33 what 7", x.count(7), LastCalled.BAD);
        Due.is("33 what -1", x.count(-1), LastCalled.BAD);
        refused("33", x, before, 2, 0, 0);
    }

    private static void digest() {
        LastCalled x = new LastCalled();
        Due.is("34 of a new object", x.digest(), mixed(0, 0, 0, 0, 0, 0, 0, 0, 1));
        read(x, "hamlet 9;one 4 6;one 5 3;one 2 8;none 0;bears 1 2;");
        x.deed(2, 31);
        x.deed(0, 7);
        x.note(1, 8, 77, 0, 1);
        x.day();
        x.owes(1);
        Due.is("34 of all", x.digest(), mixed(3, 10, 1, 2, 1, 1, 50,
                4, 6, -1, 5, 3, 2, 2, 8, 2, 2, 31, 0, 7, 1, 8, 77, 0, 1, 31, 2));
        Due.is("34 it changes nothing", x.status(0) + x.status(1) + x.status(2), 0);
    }

    private static long mixed(long... values) {
        long h = 1201;
        for (long v : values) {
            h = 31 * h + v;
        }
        return h;
    }
}
