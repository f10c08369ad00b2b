/** Boundary cases of "the fewest": calls, own, ring. */
public final class EdgesFewestTest extends Edges {
    public static void main(String[] args) throws IllegalAccessException {
        runCases(EdgesFewestTest.class);
    }

    private static void calls(LastCalled x, int p, int name, int many, int first) {
        Due.is("calls by which " + p + " bears " + name, x.calls(p, name, 0), many);
        Due.is("the first of them", x.calls(p, name, 1), first);
    }

    private static void own(LastCalled x, int many, int owners, int first) {
        Due.is("calls", x.own(0), many);
        Due.is("who have their own then", x.own(1), owners);
        Due.is("the first of them", x.own(2), first);
    }

    // ---- promise 15: calls

    static void promise15_theFirstAndTheLastWhoIsThereAreTaken_othersAreBad() {
        bounds(Edges::some, (x, p) -> x.calls(p, 0, 0), 0, 1, 3, NONE);
        bounds(Edges::seven, (x, p) -> x.calls(p, 3, 0), 0, 1, 6, 1);
    }

    static void promise15_namesOfTheFirstAndTheLastWhoIsThereAreTaken_othersAreBad() {
        bounds(Edges::some, (x, name) -> x.calls(0, name, 1), 0, 0, 3, 30);
        bounds(Edges::seven, (x, name) -> x.calls(3, name, 1), 0, 0, 6, 60);
    }

    static void promise15_whats0And1AreTaken_minus1And2AreBad() {
        bounds(Edges::some, (x, what) -> x.calls(0, 2, what), 0, 1, 1, 20);
    }

    static void promise15_borneAlready_0_andNoneIsFirst() {
        calls(told("hamlet 0;one 0 0;"), 0, 0, 0, NONE);
        calls(some(), 2, 1, 0, NONE);
    }

    static void promise15_byOne_theFirstPlaceOfIt() {
        calls(told("hamlet 0;one 0 9;one 0 0;"), 0, 1, 1, 16);
        calls(told("hamlet 0;one 0 3;one 0 0;"), 0, 1, 1, 10);
        calls(told("hamlet 0;one 2 9;one 0 0;"), 0, 1, 1, 18);
        calls(told("hamlet 0;one 0 0;none 0;"), 0, 0, 1, 0);
    }

    static void promise15_byOne_theLastNameAndPlaceThereAre() {
        calls(told(SEVEN.replace("one 0 0", "one 2 9")), 0, 6, 1, 68);
    }

    static void promise15_byTwo_theFirstRow() {
        // of names not its own the cliff turns at nobody's alone: first the plain one must lose his
        calls(told("hamlet 0;one 5 0;one 0 9;"), 0, 1, 2, 6);
        calls(told("hamlet 0;one 0 0;one 0 9;one 5 4;"), 2, 0, 2, 10);
    }

    static void promise15_byTwo_theVeryFirstRow() {
        calls(told("hamlet 0;one 5 9;one 0 3;"), 0, 1, 2, 0);
    }

    static void promise15_onlyNamesOfPeopleWhoAreThereAreCalled() {
        // a cliff would leave its name for nobody's, but there is none that is nobody's
        calls(told("hamlet 0;one 5 9;one 5 0;"), 0, 1, NONE, NONE);
    }

    static void promise15_threeWouldBeNeeded_none() {
        LastCalled x = told("hamlet 0;one 1 9;one 0 7;one 5 0;");
        calls(x, 2, 0, NONE, NONE);
        Due.is("the plain one takes it", x.call(0, 4), 2);
        calls(x, 2, 0, 2, 14);
        Due.is("and leaves it", x.call(1, 7), 2);
        calls(x, 2, 0, 1, 0);
        Due.is("the cliff takes it", x.call(0, 0), 4);
        calls(x, 2, 0, 0, NONE);
    }

    static void promise15_never_none() {
        calls(told("hamlet 0;one 1 0;one 0 0;"), 0, 1, NONE, NONE);
        calls(told("hamlet 0;one 1 0;none 0;"), 0, 0, NONE, NONE);
    }

    static void promise15_onThisDayAlone() {
        LastCalled x = told("hamlet 99;one 4 0;one 0 0;");
        calls(x, 0, 1, NONE, NONE);
        x.day();
        calls(x, 0, 1, 1, 10);
    }

    static void promise15_nothingIsChanged() {
        answers(Edges::full, x -> x.calls(3, 0, 0), NONE);
        answers(Edges::some, x -> x.calls(0, 2, 1), 20);
    }

    // ---- promise 16: own

    static void promise16_whats0And2AreTaken_minus1And3AreBad() {
        bounds(() -> told("hamlet 0;one 0 0;one 0 9;none 1;"), LastCalled::own, 0, 1, 2, 16);
        bounds(LastCalled::new, LastCalled::own, 0, 0, 2, NONE);
    }

    static void promise16_nobodyIsThere() {
        own(new LastCalled(), 0, 0, NONE);
    }

    static void promise16_allHaveTheirOwn_noCall() {
        own(told("hamlet 0;one 0 0;"), 0, 1, NONE);
        own(seven(), 0, 7, NONE);
    }

    static void promise16_noneCanHaveIt_noCall() {
        own(told("hamlet 0;one 1 0;none 0;"), 0, 0, NONE);
        own(told("hamlet 1;one 4 0;none 0;"), 0, 0, NONE);
    }

    static void promise16_oneCall_theVeryFirst() {
        own(told("hamlet 0;one 0 0;none 0;"), 1, 1, 0);
    }

    static void promise16_oneCall_theVeryLast() {
        // only the deaf one at 9 hears from there; from 8 the other would turn, too
        own(told("hamlet 0;one 0 5;one 2 9;none 1;"), 1, 2, 19);
    }

    static void promise16_twoCalls() {
        own(told("hamlet 0;one 0 0;one 0 9;none 0;none 1;"), 2, 2, 0);
        own(told("hamlet 0;one 0 9;one 0 0;none 0;none 1;"), 2, 2, 6);
    }

    static void promise16_threeWouldBringMore_twoAreTheMost() {
        LastCalled x = told("hamlet 0;one 0 0;one 0 5;one 0 9;none 0;none 1;none 2;");
        own(x, 2, 2, 0);
        x.call(0, 0);
        own(x, 2, 3, 14);
        x.call(1, 4);
        own(x, 1, 3, 29);
    }

    static void promise16_asManyByOneAsByTwo_one() {
        // both are never to have theirs, as each hears what the other hears
        own(told("hamlet 0;one 0 0;one 0 0;none 0;none 1;"), 1, 1, 0);
    }

    static void promise16_asManyByNoneAsByOne_none() {
        own(told("hamlet 0;one 0 0;one 0 0;bears 1 0;"), 0, 1, NONE);
    }

    static void promise16_onlyNamesOfPeopleWhoAreThereAreCalled() {
        own(told("hamlet 0;one 5 9;one 5 0;bears 0 1;bears 1 0;"), 0, 0, NONE);
    }

    static void promise16_behindAnotherQuestion_asAhead() {
        LastCalled x = told("hamlet 0;one 5 9;one 0 3;");
        Due.is("another question", x.calls(0, 1, 0), 2);
        own(x, 0, 2, NONE);
        Due.is("another question", x.calls(1, 1, 1), NONE);
        own(x, 0, 2, NONE);
    }

    static void promise16_onThisDayAlone() {
        LastCalled x = told("hamlet 99;one 4 0;none 0;");
        own(x, 0, 0, NONE);
        x.day();
        own(x, 1, 1, 0);
    }

    static void promise16_nothingIsChanged() {
        answers(() -> told("hamlet 0;one 0 0;one 0 9;none 0;none 1;"), x -> x.own(1), 2);
    }

    // ---- promise 17: ring

    static void promise17_theFirstAndTheLastWhoIsThereAreTaken_othersAreBad() {
        bounds(Edges::seven, LastCalled::ring, 0, 1, 6, 1);
        bounds(Edges::some, LastCalled::ring, 0, 0, 3, 0);
    }

    static void promise17_oneBearsTheOwn_1() {
        answers(() -> told("hamlet 0;one 0 0;"), x -> x.ring(0), 1);
    }

    static void promise17_two() {
        LastCalled x = told("hamlet 0;one 0 0;one 0 0;bears 0 1;bears 1 0;");
        Due.is("the first", x.ring(0), 2);
        Due.is("the second", x.ring(1), 2);
    }

    static void promise17_allSeven() {
        LastCalled x = told(SEVEN + "bears 0 1;bears 1 2;bears 2 3;bears 3 4;bears 4 5;bears 5 6;bears 6 0;");
        for (int p = 0; p < 7; p++) {
            Due.is("ring(" + p + ")", x.ring(p), 7);
        }
    }

    static void promise17_oneBearsNone_0() {
        answers(() -> told("hamlet 0;one 0 0;none 0;"), x -> x.ring(0), 0);
    }

    static void promise17_itComesToOneWhoBearsNone_0() {
        LastCalled x = told(SEVEN + "bears 0 1;bears 1 2;bears 2 3;bears 3 4;bears 4 5;bears 5 6;none 6;");
        for (int p = 0; p < 7; p++) {
            Due.is("ring(" + p + ")", x.ring(p), 0);
        }
    }

    static void promise17_itNeverComesBack_0() {
        LastCalled x = told(SEVEN + "bears 0 1;bears 1 2;bears 2 3;bears 3 4;bears 4 5;bears 5 6;bears 6 1;");
        Due.is("into a ring of six", x.ring(0), 0);
        Due.is("of the six", x.ring(6), 6);
        LastCalled y = told("hamlet 0;one 0 0;one 0 0;bears 0 1;");
        Due.is("into a ring of one", y.ring(0), 0);
        Due.is("of the one", y.ring(1), 1);
    }
}
