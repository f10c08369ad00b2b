/** Boundary cases of "calls": call, goes, day, undo, of, turn, bearers, names. */
public final class EdgesCallsTest extends Edges {
    public static void main(String[] args) throws IllegalAccessException {
        runCases(EdgesCallsTest.class);
    }

    private static void bears(String what, LastCalled x, int... names) {
        for (int p = 0; p < names.length; p++) {
            Due.is(what + ": the name of " + p, x.of(p, 2), names[p]);
        }
    }

    // ---- promise 7: call

    static void promise07_namesOfTheFirstAndTheLastWhoIsThereAreTaken_othersAreBad() {
        bounds(Edges::some, (x, name) -> x.call(name, 1), 0, 3, 3, 3);
        bounds(Edges::seven, (x, name) -> x.call(name, 0), 0, 127, 6, 127);
    }

    static void promise07_places0And9AreTaken_minus1And10AreBad() {
        bounds(Edges::some, (x, place) -> x.call(0, place), 0, 3, 9, 6);
    }

    static void promise07_nobodyTurns_allStays() {
        LastCalled x = told("hamlet 0;one 0 0;one 0 1;one 0 2;bears 1 0;none 2;");
        Due.is("a firm's", x.call(0, 9), 0);
        bears("a firm's", x, 0, 0, NONE);
        Due.is("nobody's", x.call(2, 9), 0);
        bears("nobody's", x, 0, 0, NONE);
    }

    static void promise07_whoBoreItAndTurnsNot_bearsNone() {
        LastCalled x = told("hamlet 0;one 0 0;one 0 9;one 0 9;bears 2 1;");
        Due.is("two bore it", x.call(1, 0), 1);
        bears("one does", x, 1, NONE, NONE);
    }

    static void promise07_whoBoreItAndTurns_bearsItStill() {
        LastCalled x = told("hamlet 0;one 0 0;one 0 0;");
        Due.is("both turn", x.call(1, 0), 3);
        bears("both", x, 1, 1);
        Due.is("both again", x.call(1, 0), 3);
        bears("both again", x, 1, 1);
    }

    static void promise07_theOldNameIsNobodys_ifTheOneWhoBoreItTurns() {
        LastCalled x = told("hamlet 0;one 0 0;one 0 9;");
        x.call(1, 0);
        Due.is("missing", x.names(0), 1);
        Due.is("bearers", x.bearers(0), 0);
    }

    static void promise07_whoBearsNoneTurns_andBearsIt() {
        LastCalled x = told("hamlet 0;one 0 0;none 0;");
        Due.is("turns", x.call(0, 3), 1);
        bears("again", x, 0);
    }

    static void promise07_allTurnByHowAllWereAhead_theCarefulOneBoreIt() {
        LastCalled x = told("hamlet 0;one 0 0;one 1 0;");
        Due.is("both turn", x.call(1, 0), 3);
    }

    static void promise07_allTurnByHowAllWereAhead_nobodyBoreIt() {
        LastCalled x = told("hamlet 0;one 0 0;one 5 6;one 5 0;none 0;");
        Due.is("all turn", x.call(0, 0), 7);
    }

    static void promise07_allTurnByHowAllWereAhead_theCliffIsNotFreedByIt() {
        LastCalled x = told("hamlet 0;one 5 0;one 0 0;");
        Due.is("the name that is left behind the call", x.call(0, 0), 3);
        Due.is("another's", x.call(1, 0), 3);
        LastCalled y = told("hamlet 0;one 5 0;one 0 0;one 0 9;");
        Due.is("another's, who loses it", y.call(2, 0), 2);
        bears("the cliff keeps", y, 0, 2, NONE);
    }

    static void promise07_sevenTurn() {
        LastCalled x = seven();
        Due.is("all", x.call(6, 3), 127);
        Due.is("bearers", x.bearers(6), 127);
        Due.is("missing", x.names(0), 63);
    }

    static void promise07_theOnlyOne() {
        LastCalled x = told("hamlet 0;one 1 9;");
        Due.is("near", x.call(0, 6), 1);
        Due.is("far", x.call(0, 5), 0);
        bears("still", x, 0);
    }

    // ---- promise 8: goes

    static void promise08_theFirstAndTheLastWhoIsThereAreTaken_othersAreBad() {
        bounds(Edges::some, (x, p) -> x.goes(p, 7), 0, 1, 3, 2);
        bounds(Edges::full, (x, p) -> x.goes(p, 7), 0, 9, 6, 6);
    }

    static void promise08_places0And9AreTaken_minus1And10AreBad() {
        bounds(Edges::some, (x, place) -> x.goes(2, place), 0, 8, 9, 8);
    }

    static void promise08_onlyThatOneGoes() {
        LastCalled x = seven();
        x.goes(3, 9);
        for (int p = 0; p < 7; p++) {
            Due.is("place of " + p, x.of(p, 1), p == 3 ? 9 : 0);
        }
    }

    static void promise08_toTheSamePlace_isAStep() {
        LastCalled x = told("hamlet 0;one 0 4;");
        Due.is("goes", x.goes(0, 4), 4);
        Due.is("place", x.of(0, 1), 4);
        Due.is("may be undone", x.count(5), 1);
    }

    // ---- promise 9: day

    static void promise09_withNobodyThere() {
        LastCalled x = new LastCalled();
        Due.is("day", x.day(), 1);
        Due.is("may be undone", x.count(5), 1);
        Due.is("undo", x.undo(), 0);
    }

    static void promise09_beyond99() {
        LastCalled x = told("hamlet 99;");
        Due.is("day", x.day(), 100);
        Due.is("day", x.day(), 101);
        Due.is("undo", x.undo(), 100);
        Due.is("undo", x.undo(), 99);
    }

    static void promise09_ofAll512Calls() {
        LastCalled x = new LastCalled();
        x.hamlet(99);
        for (int i = 1; i <= 511; i++) {
            Due.is("day", x.day(), 99 + i);
        }
    }

    static void promise09_nobodyMovesOrLosesAName() {
        LastCalled x = some();
        x.day();
        int[] due = {0, 1, 1, 5, 6, 1, 3, 8, 1, 1, 2, NONE};
        for (int i = 0; i < due.length; i++) {
            Due.is("of(" + i / 3 + ", " + i % 3 + ")", x.of(i / 3, i % 3), due[i]);
        }
    }

    // ---- promise 10: undo

    static void promise10_noneMayBe_no() {
        refused(LastCalled::new, LastCalled::undo, NO);
        refused(() -> told("hamlet 3;one 0 0;"), LastCalled::undo, NO);
        refused(EdgesCallsTest::undone, LastCalled::undo, NO);
    }

    private static LastCalled undone() {
        LastCalled x = full();
        for (int i = 0; i < 8; i++) {
            x.undo();
        }
        return x;
    }

    static void promise10_aCall_aStep_aDay() {
        LastCalled x = told("hamlet 6;one 0 0;one 0 9;");
        long first = x.digest();
        x.call(1, 0);
        Due.is("undo of a call", x.undo(), 6);
        Due.is("all as ahead of it", x.digest(), first);
        x.goes(1, 4);
        Due.is("undo of a step", x.undo(), 6);
        Due.is("all as ahead of it", x.digest(), first);
        x.day();
        Due.is("undo of a day", x.undo(), 6);
        Due.is("all as ahead of it", x.digest(), first);
    }

    static void promise10_aCallAtWhichNobodyTurns_isACall() {
        LastCalled x = told("hamlet 6;one 0 0;");
        x.day();
        x.call(0, 9);
        Due.is("may be undone", x.count(5), 2);
        Due.is("undo", x.undo(), 7);
        Due.is("undo", x.undo(), 6);
    }

    static void promise10_theLastOfThemFirst() {
        LastCalled x = told("hamlet 6;one 0 0;one 0 9;");
        x.call(1, 0);
        x.goes(1, 4);
        x.day();
        Due.is("the day", x.undo(), 6);
        Due.is("place", x.of(1, 1), 4);
        Due.is("the step", x.undo(), 6);
        Due.is("place", x.of(1, 1), 9);
        bears("behind the call", x, 1, NONE);
        Due.is("the call", x.undo(), 6);
        bears("ahead of the call", x, 0, 1);
    }

    static void promise10_eightMayBe_ofNineTheFirstMayNot() {
        for (int many = 7; many <= 9; many++) {
            LastCalled x = new LastCalled();
            for (int i = 0; i < many; i++) {
                x.day();
            }
            int may = Math.min(many, 8);
            Due.is("of " + many, x.count(5), may);
            for (int i = 1; i <= may; i++) {
                Due.is("undo " + i + " of " + many, x.undo(), many - i);
            }
            Due.is("one more of " + many, x.undo(), NO);
            Due.is("the day then", x.count(1), many - may);
        }
    }

    static void promise10_theOldestGoesOut_namesAndPlacesToo() {
        LastCalled x = told("hamlet 0;one 0 0;one 0 9;");
        x.goes(0, 1);
        x.call(1, 9);
        x.call(0, 9);
        long due = x.digest() - 3L * power31(2 * 3 + 2 + 1);
        for (int i = 0; i < 4; i++) {
            x.goes(0, 5 + i);
            x.call(1, 7);
        }
        for (int i = 0; i < 8; i++) {
            x.undo();
        }
        Due.is("digest, but that none may be undone", x.digest(), due);
        bears("then", x, NONE, 0);
        Due.is("no more", x.undo(), NO);
    }

    /** What 1 is worth in a digest with so many values behind it. */
    private static long power31(int behind) {
        long power = 1;
        for (int i = 0; i < behind; i++) {
            power *= 31;
        }
        return power;
    }

    static void promise10_manyMoreThanEight() {
        LastCalled x = told("hamlet 0;one 0 0;");
        for (int i = 0; i < 100; i++) {
            x.goes(0, i % 10);
            x.day();
        }
        for (int i = 0; i < 8; i++) {
            Due.is("undo", x.undo(), 100 - (i + 2) / 2);
        }
        Due.is("place", x.of(0, 1), 5);
        Due.is("no more", x.undo(), NO);
    }

    static void promise10_behindUndoingFromTheFull_thereIsRoomForAsMany() {
        LastCalled x = new LastCalled();
        for (int i = 0; i < 10; i++) {
            x.day();
        }
        for (int i = 0; i < 5; i++) {
            x.undo();
        }
        Due.is("three are left", x.count(5), 3);
        for (int i = 0; i < 6; i++) {
            x.day();
        }
        Due.is("eight at most", x.count(5), 8);
        for (int i = 1; i <= 8; i++) {
            Due.is("undo", x.undo(), 11 - i);
        }
        Due.is("no more", x.undo(), NO);
    }

    static void promise10_behindOneThatComes_none() {
        LastCalled x = some();
        x.one(PLAIN, 0);
        Due.is("may be undone", x.count(5), 0);
        Due.is("undo", x.undo(), NO);
        x.day();
        Due.is("anew", x.count(5), 1);
        Due.is("undo", x.undo(), 8);
        Due.is("who came is there", x.count(0), 5);
    }

    static void promise10_behindOneThatWasRefused_asMany() {
        LastCalled x = full();
        x.one(PLAIN, 0);
        x.one(9, 0);
        Due.is("may be undone", x.count(5), 8);
    }

    static void promise10_behindHamletAndRead_none() {
        LastCalled x = some();
        x.hamlet(3);
        Due.is("behind hamlet", x.undo(), NO);
        x.day();
        x.read();
        Due.is("behind read", x.undo(), NO);
    }

    static void promise10_whatIsRefusedOrOnlyAsked_isNotUndone() {
        LastCalled x = some();
        x.call(4, 0);
        x.call(0, 10);
        x.goes(4, 0);
        x.goes(0, -1);
        x.turn(0, 0);
        x.calls(0, 1, 0);
        x.own(0);
        x.weeks(1, 60);
        x.trippers(0, 0, 0, 1);
        Due.is("may be undone", x.count(5), 3);
    }

    static void promise10_deedsNotesTextAndFractionStay() {
        LastCalled x = told("hamlet 6;one 0 0;");
        x.day();
        x.deed(0, 7);
        x.note(0, 1, 1, 1, 1);
        x.type(' ');
        x.owes(0);
        x.undo();
        int[] due = {1, 6, 1, 1, 1, 0, 18};
        for (int what = 0; what <= 6; what++) {
            Due.is("count(" + what + ")", x.count(what), due[what]);
        }
        fraction("7 by 1", x, 7, 1);
    }

    static void promise10_undoIsNotUndone() {
        LastCalled x = new LastCalled();
        x.day();
        x.day();
        Due.is("the second", x.undo(), 1);
        Due.is("the first", x.undo(), 0);
        Due.is("no more", x.undo(), NO);
    }

    // ---- promise 11: of

    static void promise11_theFirstAndTheLastWhoIsThereAreTaken_othersAreMinus10() {
        taken(Edges::some, x -> x.of(0, 1), 1);
        taken(Edges::some, x -> x.of(3, 1), 2);
        badBeyond(Edges::some, (x, p) -> x.of(p, 1), 0, 3, -10);
        taken(Edges::full, x -> x.of(6, 0), PLAIN);
        badBeyond(Edges::full, (x, p) -> x.of(p, 0), 0, 6, -10);
    }

    static void promise11_whats0And2AreTaken_minus1And3AreMinus10() {
        answers(Edges::some, x -> x.of(2, 0), CHILD);
        answers(Edges::some, x -> x.of(2, 1), 8);
        answers(Edges::some, x -> x.of(2, 2), 1);
        badBeyond(Edges::some, (x, what) -> x.of(2, what), 0, 2, -10);
    }

    static void promise11_whoBearsNone_none() {
        answers(Edges::some, x -> x.of(3, 2), NONE);
    }

    // ---- promise 12: turn

    static void promise12_namesOfTheFirstAndTheLastWhoIsThereAreTaken_othersAreBad() {
        bounds(Edges::some, (x, name) -> x.turn(name, 1), 0, 3, 3, 3);
        bounds(Edges::seven, (x, name) -> x.turn(name, 0), 0, 127, 6, 127);
    }

    static void promise12_places0And9AreTaken_minus1And10AreBad() {
        bounds(Edges::some, (x, place) -> x.turn(0, place), 0, 3, 9, 6);
    }

    static void promise12_nothingIsChanged() {
        answers(Edges::some, x -> x.turn(0, 0), 3);
        answers(Edges::seven, x -> x.turn(0, 4), 0);
        answers(Edges::seven, x -> x.turn(0, 3), 127);
    }

    static void promise12_asOneWouldNow_notAsBefore() {
        LastCalled x = told("hamlet 0;one 4 0;one 0 9;");
        Due.is("on an even day", x.turn(1, 0), 1);
        x.day();
        Due.is("on an odd day", x.turn(1, 0), 0);
        x.day();
        x.goes(0, 7);
        Due.is("behind a step", x.turn(1, 0), 0);
        x.undo();
        Due.is("the step undone", x.turn(1, 0), 1);
        x.hamlet(0);
        x.one(PLAIN, 4);
        Due.is("in another hamlet", x.turn(0, 0), 0);
    }

    // ---- promise 13: bearers

    static void promise13_namesOfTheFirstAndTheLastWhoIsThereAreTaken_othersAreBad() {
        bounds(Edges::some, LastCalled::bearers, 0, 0, 3, 0);
        bounds(Edges::seven, LastCalled::bearers, 0, 1, 6, 64);
    }

    static void promise13_nobody_one_allSeven() {
        LastCalled x = seven();
        x.call(3, 0);
        Due.is("all seven", x.bearers(3), 127);
        Due.is("nobody", x.bearers(0), 0);
        answers(Edges::seven, y -> y.bearers(3), 8);
    }

    // ---- promise 14: names

    static void promise14_whats0And1AreTaken_minus1And2AreBad() {
        bounds(Edges::some, LastCalled::names, 0, 13, 1, 2);
    }

    static void promise14_missing_noneOfSeven_allButOne() {
        answers(Edges::seven, x -> x.names(0), 0);
        LastCalled x = seven();
        x.call(0, 0);
        Due.is("all but one", x.names(0), 126);
    }

    static void promise14_missing_allSeven_ifEachBearsNone() {
        LastCalled x = told(SEVEN + "none 0;none 1;none 2;none 3;none 4;none 5;none 6;");
        Due.is("missing", x.names(0), 127);
        Due.is("firms", x.names(1), 0);
    }

    static void promise14_firms_oneAloneIsNone_twoAre_moreAre() {
        Due.is("one alone", told("hamlet 0;one 0 0;").names(1), 0);
        Due.is("two", told("hamlet 0;one 0 0;one 0 0;bears 0 1;").names(1), 2);
        LastCalled x = seven();
        x.call(6, 0);
        Due.is("seven", x.names(1), 64);
    }

    static void promise14_firms_threeOfSeven() {
        LastCalled x = told(SEVEN + "bears 1 0;bears 3 2;bears 5 4;");
        Due.is("firms", x.names(1), 21);
        Due.is("missing", x.names(0), 42);
    }
}
