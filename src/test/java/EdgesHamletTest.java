/** Boundary cases of "a hamlet": a new object, hamlet, one, type, clear. */
public final class EdgesHamletTest extends Edges {
    public static void main(String[] args) throws IllegalAccessException {
        runCases(EdgesHamletTest.class);
    }

    // ---- promise 1: a new object

    static void promise01_nobodyIsThere_soNobodyMayBeNamed() {
        refused(LastCalled::new, x -> x.call(0, 0), BAD);
        refused(LastCalled::new, x -> x.goes(0, 0), BAD);
        refusedAs("of", LastCalled::new, x -> x.of(0, 0), -10, BAD);
        refused(LastCalled::new, x -> x.turn(0, 0), BAD);
        refused(LastCalled::new, x -> x.bearers(0), BAD);
        refused(LastCalled::new, x -> x.calls(0, 0, 0), BAD);
        refused(LastCalled::new, x -> x.ring(0), BAD);
        refused(LastCalled::new, x -> x.deed(0, 1), BAD);
        refused(LastCalled::new, x -> x.owes(0), BAD);
        refused(LastCalled::new, x -> x.ears(0, 1, 0, 0), BAD);
        refused(LastCalled::new, x -> x.note(0, 0, 0, 0, 0), BAD);
        refused(LastCalled::new, x -> x.is(0), BAD);
        refused(LastCalled::new, x -> x.stood(0), BAD);
        refused(LastCalled::new, x -> x.next(0), BAD);
        refused(LastCalled::new, x -> x.trippers(0, 0, 0, 0), BAD);
    }

    static void promise01_nobodyIsThere_soWhatAsksOfAllAnswersOfNobody() {
        answers(LastCalled::new, x -> x.count(0), 0);
        answers(LastCalled::new, x -> x.count(2), 0);
        answers(LastCalled::new, x -> x.names(0), 0);
        answers(LastCalled::new, x -> x.names(1), 0);
        answers(LastCalled::new, x -> x.own(0), 0);
        answers(LastCalled::new, x -> x.own(1), 0);
        answers(LastCalled::new, x -> x.own(2), NONE);
        answers(LastCalled::new, LastCalled::unpaid, 0);
    }

    static void promise01_theDayIs0AtFirst() {
        answers(LastCalled::new, x -> x.count(1), 0);
    }

    static void promise01_thereAreNoDeedsNotesBytesAndNothingToUndo() {
        for (int what = 3; what <= 6; what++) {
            Due.is("count(" + what + ")", new LastCalled().count(what), 0);
        }
    }

    static void promise01_theFractionIs0By1() {
        fraction("at first", new LastCalled(), 0, 1);
    }

    static void promise01_nothingWasRefused() {
        answers(LastCalled::new, x -> x.status(0), 0);
        answers(LastCalled::new, x -> x.status(1), 0);
        answers(LastCalled::new, x -> x.status(2), 0);
    }

    static void promise01_noneMayBeUndone() {
        refused(LastCalled::new, LastCalled::undo, NO);
    }

    static void promise01_noImageWasKept() {
        refused(LastCalled::new, x -> x.from(0), NO);
        refused(LastCalled::new, x -> x.from(1), NO);
    }

    static void promise01_theTextIsEmpty() {
        LastCalled x = new LastCalled();
        Due.is("read", x.read(), -10);
        Due.is("clear", x.clear(), 0);
    }

    static void promise01_twoObjectsShareNothing() {
        LastCalled x = new LastCalled();
        LastCalled used = full();
        used.undo();
        used.hamlet(100);
        Due.is("another's digest", x.digest(), new LastCalled().digest());
        Due.is("another's image", x.from(0), NO);
        Due.is("another's STATUS", x.status(0), 0);
    }

    // ---- promise 2: hamlet

    static void promise02_days0And99AreTaken_minus1And100AreBad() {
        bounds(Edges::some, LastCalled::hamlet, 0, 4, 99, 4);
        bounds(LastCalled::new, LastCalled::hamlet, 0, 0, 99, 0);
    }

    static void promise02_theDayIsTheOneTold() {
        for (int day : new int[] {0, 1, 98, 99}) {
            LastCalled x = some();
            x.hamlet(day);
            Due.is("the day", x.count(1), day);
        }
    }

    static void promise02_ofNobody_0() {
        Due.is("hamlet", new LastCalled().hamlet(5), 0);
    }

    static void promise02_ofSeven_7_thenSevenMayComeAgain() {
        LastCalled x = full();
        Due.is("hamlet", x.hamlet(5), 7);
        Due.is("people", x.count(0), 0);
        for (int p = 0; p < 7; p++) {
            Due.is("one", x.one(PLAIN, p), p);
        }
        Due.is("the 8th", x.one(PLAIN, 0), FULL);
    }

    static void promise02_allElseIsAsAtFirst() {
        LastCalled x = full();
        LastCalled fresh = new LastCalled();
        x.hamlet(0);
        for (int what = 0; what <= 5; what++) {
            Due.is("count(" + what + ")", x.count(what), 0);
        }
        Due.is("none may be undone", x.undo(), NO);
        Due.is("unpaid", x.unpaid(), 0);
        x.clear();
        x.one(CLIFF, 6);
        x.trippers(0, 0, 6, 0);
        fresh.one(CLIFF, 6);
        fresh.trippers(0, 0, 6, 0);
        Due.is("digest", x.digest(), fresh.digest());
    }

    static void promise02_whoComesBehindBearsTheOwnName_whoeverBoreItBefore() {
        LastCalled x = told("hamlet 0;one 0 0;one 0 0;one 0 0;bears 2 0;bears 1 0;");
        x.hamlet(0);
        x.one(PLAIN, 0);
        Due.is("name", x.of(0, 2), 0);
        Due.is("bearers", x.bearers(0), 1);
        x.one(PLAIN, 0);
        Due.is("missing", x.names(0), 0);
    }

    static void promise02_theImagesStay() {
        LastCalled x = full();
        x.hamlet(0);
        Due.is("from(0)", x.from(0), 1);
        Due.is("people", x.count(0), 7);
        x.hamlet(0);
        Due.is("from(1)", x.from(1), 1);
        Due.is("what may be undone", x.count(5), 8);
    }

    static void promise02_theTextStays() {
        LastCalled x = full();
        x.hamlet(0);
        Due.is("bytes", x.count(6), 150);
        Due.is("read", x.read(), 10);
    }

    static void promise02_theFractionStays() {
        LastCalled x = some();
        x.hamlet(0);
        fraction("25 by 2", x, 25, 2);
    }

    static void promise02_statusStays() {
        LastCalled x = some();
        x.from(0);
        x.one(6, 0);
        x.hamlet(0);
        Due.is("BAD", x.status(0), 1);
        Due.is("NO", x.status(1), 1);
    }

    // ---- promise 3: one

    static void promise03_kinds0And5AreTaken_minus1And6AreBad() {
        bounds(Edges::some, (x, kind) -> x.one(kind, 4), 0, 4, 5, 4);
    }

    static void promise03_places0And9AreTaken_minus1And10AreBad() {
        bounds(Edges::some, (x, place) -> x.one(CHILD, place), 0, 4, 9, 4);
    }

    static void promise03_the7thIsTaken_the8thIsFull() {
        LastCalled x = new LastCalled();
        for (int p = 0; p < 6; p++) {
            x.one(PLAIN, p);
        }
        Due.is("the 7th", x.one(CLIFF, 9), 6);
        Due.is("its kind", x.of(6, 0), CLIFF);
        Due.is("its place", x.of(6, 1), 9);
        Due.is("its name", x.of(6, 2), 6);
        Due.is("the 8th", x.one(CLIFF, 9), FULL);
        refused(Edges::seven, y -> y.one(0, 0), FULL);
        refused(Edges::full, y -> y.one(0, 0), FULL);
    }

    static void promise03_badIsAheadOfFull() {
        for (int wrong : new int[] {-1, 6}) {
            refused(Edges::full, x -> x.one(wrong, 0), BAD);
        }
        for (int wrong : new int[] {-1, 10}) {
            refused(Edges::full, x -> x.one(0, wrong), BAD);
        }
    }

    static void promise03_theFirstHasTheNumber0_andItsName() {
        LastCalled x = new LastCalled();
        Due.is("one", x.one(PLAIN, 0), 0);
        Due.is("name", x.of(0, 2), 0);
        Due.is("who bear their own", x.count(2), 1);
    }

    static void promise03_nameIsTheOwnNumber_thoughOthersBearAnother() {
        LastCalled x = told("hamlet 0;one 0 0;one 0 0;bears 0 1;bears 1 0;");
        x.one(PLAIN, 9);
        Due.is("name", x.of(2, 2), 2);
        Due.is("the first's", x.of(0, 2), 1);
        Due.is("the second's", x.of(1, 2), 0);
    }

    static void promise03_theDayDeedsNotesTextAndFractionStay() {
        LastCalled x = some();
        x.one(DEAF, 9);
        int[] due = {5, 8, 2, 2, 2, 0, 58};
        for (int what = 0; what <= 6; what++) {
            Due.is("count(" + what + ")", x.count(what), due[what]);
        }
        fraction("25 by 2", x, 25, 2);
    }

    // ---- promise 4: type

    static void promise04_bytes0And127AreTaken_minus1And128AreBad() {
        bounds(Edges::some, LastCalled::type, 0, 59, 127, 59);
    }

    static void promise04_the150thIsTaken_the151stIsFull() {
        LastCalled x = new LastCalled();
        for (int n = 1; n <= 150; n++) {
            Due.is("byte", x.type(n % 128), n);
        }
        Due.is("the 151st", x.type(';'), FULL);
        Due.is("bytes", x.count(6), 150);
        refused(Edges::full, y -> y.type(';'), FULL);
    }

    static void promise04_badIsAheadOfFull() {
        refused(Edges::full, x -> x.type(-1), BAD);
        refused(Edges::full, x -> x.type(128), BAD);
    }

    static void promise04_whatIsFullStaysAsItWas() {
        LastCalled x = told(SEVEN + " ".repeat(150 - SEVEN.length()));
        x.type('x');
        Due.is("read", x.read(), 8);
    }

    static void promise04_nothingButTheTextIsChanged() {
        LastCalled x = some();
        LastCalled twin = some();
        x.type('x');
        x.clear();
        twin.clear();
        Due.holds("all else stays", seen(x).equals(seen(twin)));
    }

    // ---- promise 5: clear

    static void promise05_ofAnEmptyText_0() {
        answers(LastCalled::new, LastCalled::clear, 0);
        LastCalled x = some();
        x.clear();
        Due.is("again", x.clear(), 0);
    }

    static void promise05_ofOneByte_1() {
        LastCalled x = new LastCalled();
        x.type(0);
        Due.is("clear", x.clear(), 1);
    }

    static void promise05_ofAFullText_150_thenThereIsRoomFor150() {
        LastCalled x = full();
        Due.is("clear", x.clear(), 150);
        Due.is("bytes", x.count(6), 0);
        Due.is("read", x.read(), -10);
        for (int n = 1; n <= 150; n++) {
            Due.is("byte", x.type(' '), n);
        }
        Due.is("the 151st", x.type(' '), FULL);
    }

    static void promise05_theHamletStays() {
        LastCalled x = some();
        x.clear();
        Due.is("people", x.count(0), 4);
        Due.is("what may be undone", x.count(5), 3);
        fraction("25 by 2", x, 25, 2);
    }
}
