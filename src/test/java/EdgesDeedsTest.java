/** Boundary cases of "deeds": deed, owes, unpaid, ears, and forget of deeds. */
public final class EdgesDeedsTest extends Edges {
    private static final int NEITHER = 1, A_ALONE = 2, B_ALONE = 4, BOTH = 8;

    public static void main(String[] args) throws IllegalAccessException {
        runCases(EdgesDeedsTest.class);
    }

    private static void owes(LastCalled x, int p, long above, long below) {
        Due.is("owes(" + p + ")", x.owes(p), 1);
        fraction("what " + p + " owes", x, above, below);
    }

    // ---- promise 18: deed

    static void promise18_namesOfTheFirstAndTheLastWhoIsThereAreTaken_othersAreBad() {
        bounds(Edges::some, (x, name) -> x.deed(name, 5), 0, 3, 3, 3);
        bounds(Edges::seven, (x, name) -> x.deed(name, 5), 0, 1, 6, 1);
    }

    static void promise18_pence1And60AreTaken_0And61AreBad() {
        bounds(Edges::some, (x, pence) -> x.deed(0, pence), 1, 3, 60, 3);
    }

    static void promise18_pence1And60AreKept() {
        LastCalled x = told("hamlet 0;one 0 0;");
        x.deed(0, 1);
        owes(x, 0, 1, 1);
        x.deed(0, 60);
        owes(x, 0, 61, 1);
    }

    static void promise18_the6thIsTaken_the7thIsFull() {
        LastCalled x = seven();
        for (int n = 1; n <= 6; n++) {
            Due.is("deed", x.deed(n, 10 * n), n);
        }
        Due.is("the 7th", x.deed(0, 1), FULL);
        Due.is("deeds", x.count(3), 6);
        owes(x, 6, 60, 1);
        owes(x, 0, 0, 1);
        refused(Edges::full, y -> y.deed(0, 1), FULL);
    }

    static void promise18_badIsAheadOfFull() {
        refused(Edges::full, x -> x.deed(-1, 1), BAD);
        refused(Edges::full, x -> x.deed(7, 1), BAD);
        refused(Edges::full, x -> x.deed(0, 0), BAD);
        refused(Edges::full, x -> x.deed(0, 61), BAD);
    }

    static void promise18_onANameThatNobodyBears() {
        LastCalled x = told("hamlet 0;one 0 0;none 0;");
        Due.is("deed", x.deed(0, 9), 1);
        Due.is("unpaid", x.unpaid(), 9);
    }

    static void promise18_itIsNotUndone_andLeavesWhatMayBe() {
        LastCalled x = some();
        x.deed(0, 1);
        Due.is("may be undone", x.count(5), 3);
        x.undo();
        Due.is("deeds", x.count(3), 3);
    }

    // ---- promise 19: owes

    static void promise19_theFirstAndTheLastWhoIsThereAreTaken_othersAreBad() {
        bounds(Edges::some, LastCalled::owes, 0, 1, 3, 1);
        bounds(Edges::seven, LastCalled::owes, 0, 1, 6, 1);
    }

    static void promise19_noDeeds_0By1() {
        LastCalled x = some();
        x.forget(0);
        owes(x, 0, 0, 1);
    }

    static void promise19_noDeedsOnThatName_0By1() {
        LastCalled x = told("hamlet 0;one 0 0;one 0 0;one 0 0;bears 2 1;");
        x.deed(0, 7);
        owes(x, 1, 0, 1);
    }

    static void promise19_whoBearsNone_0By1() {
        LastCalled x = some();
        owes(x, 3, 0, 1);
    }

    static void promise19_theMostPenceByOne() {
        LastCalled x = seven();
        for (int i = 0; i < 6; i++) {
            x.deed(6, 60);
        }
        owes(x, 6, 360, 1);
        owes(x, 5, 0, 1);
    }

    static void promise19_theMostPenceBySeven() {
        LastCalled x = seven();
        x.call(2, 0);
        for (int i = 0; i < 6; i++) {
            x.deed(2, 60);
        }
        owes(x, 0, 360, 7);
        owes(x, 6, 360, 7);
    }

    static void promise19_onePennyBySeven() {
        LastCalled x = seven();
        x.call(2, 0);
        x.deed(2, 1);
        owes(x, 4, 1, 7);
    }

    static void promise19_lowestTerms() {
        LastCalled x = told("hamlet 0;one 0 0;one 0 0;one 0 0;one 0 0;one 0 0;one 0 0;bears 1 0;bears 2 0;bears 3 0;"
                + "bears 4 0;bears 5 0;");
        int[][] due = {{4, 2, 3}, {5, 3, 2}, {3, 2, 1}, {1, 13, 6}};
        for (int[] row : due) {
            x.deed(0, row[0]);
            owes(x, 5, row[1], row[2]);
        }
    }

    static void promise19_onlyTheFractionIsChanged() {
        LastCalled x = some();
        LastCalled twin = some();
        x.owes(0);
        x.trippers(0, 0, 0, 0);
        twin.trippers(0, 0, 0, 0);
        Due.holds("all else stays", seen(x).equals(seen(twin)));
    }

    // ---- promise 20: unpaid

    static void promise20_noDeeds_0() {
        answers(LastCalled::new, LastCalled::unpaid, 0);
        answers(() -> told("hamlet 0;one 0 0;none 0;"), LastCalled::unpaid, 0);
    }

    static void promise20_allAreBorne_0() {
        LastCalled x = seven();
        x.deed(0, 60);
        x.deed(6, 60);
        Due.is("unpaid", x.unpaid(), 0);
    }

    static void promise20_theMost_onTheFirstAndTheLastName() {
        LastCalled x = told(SEVEN + "none 0;none 6;");
        for (int i = 0; i < 3; i++) {
            x.deed(0, 60);
            x.deed(6, 60);
        }
        Due.is("unpaid", x.unpaid(), 360);
        x.call(6, 0);
        Due.is("the last is borne", x.unpaid(), 180);
    }

    static void promise20_someAreBorne() {
        answers(Edges::some, LastCalled::unpaid, 29);
        LastCalled x = some();
        x.deed(1, 60);
        Due.is("on one that is borne", x.unpaid(), 29);
    }

    // ---- promise 21: ears

    static void promise21_asTheFirstAndTheLastWhoIsThereAreTaken_othersAreBad() {
        bounds(Edges::some, (x, a) -> x.ears(a, 1, 0, 1), 0, NEITHER, 3, NEITHER | A_ALONE);
        bounds(Edges::seven, (x, a) -> x.ears(a, 1, 1, 9), 0, 15, 6, 15);
    }

    static void promise21_bsTheFirstAndTheLastWhoIsThereAreTaken_othersAreBad() {
        bounds(Edges::some, (x, b) -> x.ears(1, b, 0, 1), 0, NEITHER, 3, NEITHER | B_ALONE);
        bounds(Edges::seven, (x, b) -> x.ears(1, b, 1, 9), 0, 15, 6, 15);
    }

    static void promise21_alike_isBad() {
        refused(Edges::some, x -> x.ears(0, 0, 0, 0), BAD);
        refused(Edges::some, x -> x.ears(3, 3, 0, 0), BAD);
        refused(() -> told("hamlet 0;one 0 0;"), x -> x.ears(0, 0, 0, 0), BAD);
    }

    static void promise21_namesOfTheFirstAndTheLastWhoIsThereAreTaken_othersAreBad() {
        bounds(Edges::some, (x, name) -> x.ears(0, 2, name, 5), 0, NEITHER | A_ALONE, 3, NEITHER | A_ALONE);
        bounds(Edges::seven, (x, name) -> x.ears(0, 1, name, 0), 0, NEITHER, 6, NEITHER);
    }

    static void promise21_places0And9AreTaken_minus1And10AreBad() {
        bounds(Edges::some, (x, place) -> x.ears(0, 2, 0, place), 0, NEITHER | B_ALONE, 9, NEITHER | A_ALONE);
    }

    static void promise21_nobodyTurns_allFourRest() {
        answers(() -> told("hamlet 0;one 0 0;one 0 0;"), x -> x.ears(0, 1, 0, 9), 15);
        answers(() -> told("hamlet 0;one 0 0;one 0 0;none 0;none 1;"), x -> x.ears(0, 1, 0, 4), 15);
    }

    static void promise21_onlyOneTurns_whoBearsItAlready_allFourRest() {
        answers(() -> told("hamlet 0;one 1 0;one 1 9;"), x -> x.ears(0, 1, 0, 0), 15);
    }

    static void promise21_onlyOneTurns_whoBearsItNot_heMust() {
        answers(() -> told("hamlet 0;one 0 0;one 1 9;none 0;"), x -> x.ears(0, 1, 0, 0), NEITHER | B_ALONE);
        answers(() -> told("hamlet 0;one 0 0;one 1 9;none 0;"), x -> x.ears(1, 0, 0, 0), NEITHER | A_ALONE);
    }

    static void promise21_bothTurn_whoBearItNot_neitherStops() {
        answers(() -> told("hamlet 0;one 0 0;one 0 0;one 1 9;"), x -> x.ears(0, 1, 2, 0), NEITHER);
    }

    static void promise21_bothTurn_andBearIt_neitherOrBoth() {
        answers(() -> told("hamlet 0;one 0 0;one 0 0;bears 1 0;"), x -> x.ears(0, 1, 0, 0), NEITHER | BOTH);
    }

    static void promise21_aThirdTurnsAnyhow_soBothMust() {
        answers(() -> told("hamlet 0;one 0 0;one 0 0;one 0 0;bears 1 0;"), x -> x.ears(0, 1, 0, 0), NEITHER);
    }

    static void promise21_theBearerIsOutOfHearing_theOtherMayTakeIt() {
        // while b stops his ears a keeps the name, but b would rather have it
        answers(() -> told("hamlet 0;one 0 9;one 0 0;"), x -> x.ears(0, 1, 0, 0), NEITHER | A_ALONE);
        answers(() -> told("hamlet 0;one 0 9;one 0 0;"), x -> x.ears(1, 0, 0, 0), NEITHER | B_ALONE);
    }

    static void promise21_ofSeven_theFirstAndTheLast() {
        answers(Edges::seven, x -> x.ears(0, 6, 3, 3), NEITHER);
        answers(Edges::seven, x -> x.ears(6, 0, 3, 4), 15);
    }

    // ---- promise 23: forget

    static void promise23_whats0And1AreTaken_minus1And2AreBad() {
        bounds(Edges::full, LastCalled::forget, 0, 6, 1, 6);
        bounds(Edges::some, LastCalled::forget, 0, 2, 1, 2);
    }

    static void promise23_ofNone_0() {
        answers(LastCalled::new, x -> x.forget(0), 0);
        answers(LastCalled::new, x -> x.forget(1), 0);
    }

    static void promise23_deedsOfSix_thenThereIsRoomForSix_notesStay() {
        LastCalled x = full();
        Due.is("forget", x.forget(0), 6);
        Due.is("deeds", x.count(3), 0);
        Due.is("notes", x.count(4), 6);
        Due.is("again", x.forget(0), 0);
        for (int n = 1; n <= 6; n++) {
            Due.is("deed", x.deed(0, n), n);
        }
        Due.is("the 7th", x.deed(0, 7), FULL);
    }

    static void promise23_notesOfSix_thenThereIsRoomForSix_deedsStay() {
        LastCalled x = full();
        Due.is("forget", x.forget(1), 6);
        Due.is("notes", x.count(4), 0);
        Due.is("deeds", x.count(3), 6);
        Due.is("again", x.forget(1), 0);
        Due.is("is", x.is(0), 63);
        for (int n = 1; n <= 6; n++) {
            Due.is("note", x.note(0, n, 0, 0, 1), n);
        }
        Due.is("the 7th", x.note(0, 7, 0, 0, 1), FULL);
    }

    static void promise23_whatIsForgottenIsNotPaidAnew() {
        LastCalled x = told("hamlet 0;one 0 0;");
        x.deed(0, 50);
        x.forget(0);
        x.deed(0, 3);
        owes(x, 0, 3, 1);
    }

    static void promise23_itIsNotUndone_andLeavesWhatMayBe() {
        LastCalled x = some();
        x.forget(0);
        x.forget(1);
        Due.is("may be undone", x.count(5), 3);
        x.undo();
        Due.is("deeds", x.count(3), 0);
        Due.is("notes", x.count(4), 0);
    }
}
