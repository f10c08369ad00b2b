import java.math.BigInteger;

/** Boundary cases of "who turned": note, is, stood, next, trippers, weeks. */
public final class EdgesTurnedTest extends Edges {
    private static final int ALL_KINDS = 63, ALL_PLACES = 1023;

    public static void main(String[] args) throws IllegalAccessException {
        runCases(EdgesTurnedTest.class);
    }

    /** One of that kind at a place, on day 0. */
    private static LastCalled alone(int kind, int place) {
        return told("hamlet 0;one " + kind + " " + place + ";");
    }

    private static int placesFrom(int first, int last) {
        int bits = 0;
        for (int place = first; place <= last; place++) {
            bits |= 1 << place;
        }
        return bits;
    }

    // ---- promise 22: note

    static void promise22_theFirstAndTheLastWhoIsThereAreTaken_othersAreBad() {
        bounds(Edges::some, (x, p) -> x.note(p, 0, 0, 0, 0), 0, 3, 3, 3);
        bounds(Edges::seven, (x, p) -> x.note(p, 0, 0, 0, 0), 0, 1, 6, 1);
    }

    static void promise22_places0And9AreTaken_minus1And10AreBad() {
        bounds(Edges::some, (x, place) -> x.note(0, place, 0, 0, 0), 0, 3, 9, 3);
    }

    static void promise22_days0And99AreTaken_minus1And100AreBad() {
        bounds(Edges::some, (x, day) -> x.note(0, 0, day, 0, 0), 0, 3, 99, 3);
    }

    static void promise22_daysUpTo99_thoughTheDayIsBeyond() {
        LastCalled x = told("hamlet 99;one 0 0;");
        x.day();
        Due.is("day 99", x.note(0, 0, 99, 0, 0), 1);
        Due.is("day 100, which is today", x.note(0, 0, 100, 0, 0), BAD);
    }

    static void promise22_bore0And1AreTaken_minus1And2AreBad() {
        bounds(Edges::some, (x, bore) -> x.note(0, 0, 0, bore, 0), 0, 3, 1, 3);
    }

    static void promise22_turned0And1AreTaken_minus1And2AreBad() {
        bounds(Edges::some, (x, turned) -> x.note(0, 0, 0, 0, turned), 0, 3, 1, 3);
    }

    static void promise22_the6thIsTaken_the7thIsFull() {
        LastCalled x = alone(PLAIN, 0);
        for (int n = 1; n <= 6; n++) {
            Due.is("note", x.note(0, 3, n, 0, 1), n);
        }
        Due.is("the 7th", x.note(0, 3, 7, 0, 0), FULL);
        Due.is("notes", x.count(4), 6);
        Due.is("the 7th says nothing", x.is(0) & 1, 1);
        refused(Edges::full, y -> y.note(0, 0, 0, 0, 0), FULL);
    }

    static void promise22_badIsAheadOfFull() {
        refused(Edges::full, x -> x.note(-1, 0, 0, 0, 0), BAD);
        refused(Edges::full, x -> x.note(7, 0, 0, 0, 0), BAD);
        refused(Edges::full, x -> x.note(0, 10, 0, 0, 0), BAD);
        refused(Edges::full, x -> x.note(0, 0, 100, 0, 0), BAD);
        refused(Edges::full, x -> x.note(0, 0, 0, 2, 0), BAD);
        refused(Edges::full, x -> x.note(0, 0, 0, 0, 2), BAD);
    }

    static void promise22_whatCanNotBe_isTakenToo() {
        LastCalled x = alone(PLAIN, 0);
        Due.is("turned", x.note(0, 5, 5, 1, 1), 1);
        Due.is("did not", x.note(0, 5, 5, 1, 0), 2);
    }

    static void promise22_itIsNotUndone_andLeavesWhatMayBe() {
        LastCalled x = some();
        x.note(0, 0, 0, 0, 0);
        Due.is("may be undone", x.count(5), 3);
        x.undo();
        Due.is("notes", x.count(4), 3);
    }

    // ---- promise 24: is

    static void promise24_theFirstAndTheLastWhoIsThereAreTaken_othersAreBad() {
        bounds(Edges::some, LastCalled::is, 0, ALL_KINDS, 3, ALL_KINDS);
        bounds(Edges::seven, LastCalled::is, 0, ALL_KINDS, 6, ALL_KINDS);
    }

    static void promise24_noNotes_allKinds() {
        answers(() -> alone(PLAIN, 0), x -> x.is(0), ALL_KINDS);
    }

    static void promise24_notesOfOthersAlone_allKinds() {
        LastCalled x = seven();
        for (int i = 0; i < 6; i++) {
            x.note(i, 9, 1, 0, 1);
        }
        Due.is("of the 7th", x.is(6), ALL_KINDS);
        Due.is("of the first", x.is(0), 0);
    }

    static void promise24_noKindFits_0() {
        LastCalled x = alone(CHILD, 0);
        x.note(0, 7, 0, 1, 1);
        Due.is("too far for all", x.is(0), 0);
    }

    static void promise24_turnedAtAnothers_atEachDistance() {
        int[] onEven = {29, 29, 25, 25, 24, 24, 24, 0, 0, 0};
        int[] onOdd = {13, 13, 9, 9, 8, 8, 8, 0, 0, 0};
        for (int far = 0; far < 10; far++) {
            turnedAt(far, 98, 0, onEven[far]);
            turnedAt(far, 99, 0, onOdd[far]);
        }
    }

    static void promise24_turnedAtTheOwn_atEachDistance() {
        int[] onEven = {63, 63, 59, 59, 24, 24, 24, 0, 0, 0};
        int[] onOdd = {47, 47, 43, 43, 8, 8, 8, 0, 0, 0};
        for (int far = 0; far < 10; far++) {
            turnedAt(far, 0, 1, onEven[far]);
            turnedAt(far, 1, 1, onOdd[far]);
        }
    }

    /** The kinds are those told if one turned, and all others if one did not. */
    private static void turnedAt(int far, int day, int bore, int kinds) {
        LastCalled x = alone(PLAIN, 0);
        x.note(0, far, day, bore, 1);
        Due.is("turned at " + far + " on day " + day + ", bore " + bore, x.is(0), kinds);
        x.forget(1);
        x.note(0, far, day, bore, 0);
        Due.is("did not at " + far + " on day " + day + ", bore " + bore, x.is(0), ALL_KINDS ^ kinds);
    }

    static void promise24_theLastOf6NotesCounts() {
        LastCalled x = alone(PLAIN, 0);
        for (int i = 0; i < 5; i++) {
            x.note(0, 0, 0, 1, 1);
        }
        Due.is("of five", x.is(0), ALL_KINDS);
        x.note(0, 2, 1, 0, 1);
        Due.is("of six", x.is(0), 1 << PLAIN | 1 << CHILD);
    }

    static void promise24_fromItsPlaceNow() {
        LastCalled x = alone(PLAIN, 0);
        x.note(0, 4, 1, 0, 1);
        Due.is("4 off", x.is(0), 1 << CHILD);
        x.goes(0, 1);
        Due.is("3 off", x.is(0), 1 << PLAIN | 1 << CHILD);
    }

    static void promise24_byTheDayOfTheNote_notByToday() {
        LastCalled x = told("hamlet 1;one 4 0;");
        x.note(0, 0, 2, 0, 1);
        Due.is("a sheep may be", x.is(0) >> SHEEP & 1, 1);
    }

    // ---- promise 25: stood

    static void promise25_theFirstAndTheLastWhoIsThereAreTaken_othersAreBad() {
        bounds(Edges::some, LastCalled::stood, 0, placesFrom(0, 5), 3, ALL_PLACES);
        bounds(Edges::seven, LastCalled::stood, 0, ALL_PLACES, 6, ALL_PLACES);
    }

    static void promise25_noNotes_allPlaces() {
        for (int kind = 0; kind < 6; kind++) {
            Due.is("kind " + kind, alone(kind, 4).stood(0), ALL_PLACES);
        }
    }

    static void promise25_noPlaceFits_0() {
        LastCalled x = alone(CAREFUL, 0);
        x.note(0, 0, 0, 0, 1);
        Due.is("a careful one at another's", x.stood(0), 0);
        LastCalled y = alone(PLAIN, 0);
        y.note(0, 0, 0, 0, 1);
        y.note(0, 7, 0, 0, 1);
        Due.is("no place is near both", y.stood(0), 0);
    }

    static void promise25_oneIsLeft() {
        LastCalled x = alone(PLAIN, 0);
        x.note(0, 0, 0, 0, 1);
        x.note(0, 6, 0, 0, 1);
        Due.is("3 off both", x.stood(0), 1 << 3);
    }

    static void promise25_turned_atBothEndsOfTheRow() {
        int[] reach = {3, 3, 1, 6, 6, 3};
        for (int kind = 0; kind < 6; kind++) {
            LastCalled x = alone(kind, 4);
            x.note(0, 0, 0, 1, 1);
            Due.is("kind " + kind + ", from 0", x.stood(0), placesFrom(0, reach[kind]));
            x.forget(1);
            x.note(0, 9, 0, 1, 1);
            Due.is("kind " + kind + ", from 9", x.stood(0), placesFrom(9 - reach[kind], 9));
            x.forget(1);
            x.note(0, 9, 0, 1, 0);
            Due.is("kind " + kind + ", not from 9", x.stood(0), placesFrom(0, 8 - reach[kind]));
        }
    }

    static void promise25_whateverItsPlaceIsNow() {
        for (int place = 0; place < 10; place += 9) {
            LastCalled x = alone(DEAF, place);
            x.note(0, 5, 0, 0, 1);
            Due.is("from " + place, x.stood(0), placesFrom(4, 6));
        }
    }

    static void promise25_theCliffTurnsNotAtAnothers_asSomebodyBoreIt() {
        LastCalled x = alone(CLIFF, 0);
        x.note(0, 0, 0, 0, 0);
        Due.is("all places", x.stood(0), ALL_PLACES);
        x.note(0, 0, 0, 0, 1);
        Due.is("none", x.stood(0), 0);
    }

    // ---- promise 26: next

    static void promise26_theFirstAndTheLastWhoIsThereAreTaken_othersAreBad() {
        bounds(Edges::some, LastCalled::next, 0, 6, 3, 0);
        bounds(Edges::seven, LastCalled::next, 0, 1, 6, 1);
    }

    static void promise26_noPlaceFits_none() {
        LastCalled x = alone(CAREFUL, 0);
        x.note(0, 0, 0, 0, 1);
        Due.is("next", x.next(0), NONE);
        Due.is("it is no refusal", x.status(0) + x.status(1) + x.status(2), 0);
    }

    static void promise26_onePlaceIsLeft_theFirst() {
        LastCalled x = alone(PLAIN, 9);
        x.note(0, 0, 0, 0, 1);
        x.note(0, 6, 0, 0, 1);
        Due.is("next", x.next(0), 0);
    }

    static void promise26_allAreAlike_theFirst() {
        answers(() -> alone(CAREFUL, 5), x -> x.next(0), 0);
        answers(() -> alone(CLIFF, 5), x -> x.next(0), 0);
        answers(() -> told("hamlet 1;one 4 5;"), x -> x.next(0), 0);
    }

    static void promise26_theCliffTurnsNot_asSomebodyBearsIt() {
        LastCalled x = alone(CLIFF, 5);
        x.note(0, 0, 0, 1, 1);
        Due.is("0 to 3", x.stood(0), placesFrom(0, 3));
        Due.is("all are alike", x.next(0), 0);
    }

    static void promise26_noNotes_eachKind() {
        int[] due = {1, 0, 1, 0, 0, 0};
        for (int kind = 0; kind < 6; kind++) {
            Due.is("kind " + kind, alone(kind, 5).next(0), due[kind]);
        }
    }

    static void promise26_theLastPlace() {
        LastCalled x = alone(CHILD, 0);
        x.note(0, 0, 0, 0, 1);
        // 0 to 6: from 9 he would turn at 3 to 6, the greater part is 4; from 8 it is 5
        Due.is("next", x.next(0), 9);
    }

    static void promise26_twoAreLeft_theFirstThatTellsThem() {
        LastCalled x = alone(PLAIN, 0);
        x.note(0, 0, 0, 0, 1);
        x.note(0, 5, 0, 0, 1);
        Due.is("2 and 3", x.stood(0), 12);
        Due.is("from 6 only 3 would turn", x.next(0), 6);
    }

    static void promise26_onThisDay() {
        LastCalled x = told("hamlet 99;one 4 5;");
        x.note(0, 0, 0, 0, 1);
        Due.is("on an odd day all are alike", x.next(0), 0);
        x.day();
        Due.is("on an even one", x.next(0), 9);
    }

    // ---- promise 27: trippers

    private static void trips(LastCalled x, int p, int c, long above, long below) {
        Due.is("trippers", x.trippers(p, 0, 0, c), 1);
        fraction("of " + p + " by " + c, x, above, below);
    }

    static void promise27_theFirstAndTheLastWhoIsThereAreTaken_othersAreBad() {
        bounds(Edges::some, (x, p) -> x.trippers(p, 0, 0, 5), 0, 1, 3, 1);
        bounds(Edges::seven, (x, p) -> x.trippers(p, 0, 0, 5), 0, 1, 6, 1);
    }

    static void promise27_namesOfTheFirstAndTheLastWhoIsThereAreTaken_othersAreBad() {
        bounds(Edges::some, (x, name) -> x.trippers(0, name, 0, 5), 0, 1, 3, 1);
        bounds(Edges::seven, (x, name) -> x.trippers(0, name, 0, 5), 0, 1, 6, 1);
    }

    static void promise27_places0And9AreTaken_minus1And10AreBad() {
        bounds(Edges::some, (x, place) -> x.trippers(0, 0, place, 5), 0, 1, 9, 1);
    }

    static void promise27_odds0And10AreTaken_minus1And11AreBad() {
        bounds(Edges::some, (x, c) -> x.trippers(0, 0, 0, c), 0, 1, 10, 1);
    }

    static void promise27_allListen_asByACall() {
        LastCalled x = told("hamlet 0;one 0 9;one 0 0;one 0 9;");
        trips(x, 0, 0, 0, 1);
        trips(x, 1, 0, 1, 1);
        trips(x, 2, 0, 0, 1);
    }

    static void promise27_nobodyListens_allStays() {
        LastCalled x = told("hamlet 0;one 0 9;one 0 0;one 0 9;");
        trips(x, 0, 10, 1, 1);
        trips(x, 1, 10, 0, 1);
        trips(x, 2, 10, 0, 1);
    }

    static void promise27_nobodyWouldTurn_allStays() {
        for (int c = 0; c <= 10; c += 5) {
            LastCalled x = told("hamlet 0;one 0 9;one 0 9;");
            trips(x, 0, c, 1, 1);
            trips(x, 1, c, 0, 1);
        }
    }

    static void promise27_oneWouldTurn_whoBearsIt_always() {
        for (int c = 0; c <= 10; c++) {
            trips(alone(PLAIN, 0), 0, c, 1, 1);
        }
    }

    static void promise27_oneWouldTurn_whoBearsItNot() {
        int[][] due = {{1, 1}, {9, 10}, {4, 5}, {7, 10}, {3, 5}, {1, 2}, {2, 5}, {3, 10}, {1, 5}, {1, 10}, {0, 1}};
        for (int c = 0; c <= 10; c++) {
            trips(told("hamlet 0;one 0 0;none 0;"), 0, c, due[c][0], due[c][1]);
        }
    }

    static void promise27_sevenWouldTurn_by1And9() {
        // who bears it keeps it too if none of the seven listens
        trips(seven(), 0, 1, 9000001, 10000000);
        trips(seven(), 6, 1, 9, 10);
        trips(seven(), 0, 9, 5782969, 10000000);
        trips(seven(), 6, 9, 1, 10);
    }

    static void promise27_theBearerOutOfHearing_keepsItIfSixListenNot() {
        LastCalled x = told(SEVEN.replaceFirst("one 0 0", "one 0 9"));
        trips(x, 0, 1, 1, 1000000);
        trips(x, 0, 9, 531441, 1000000);
    }

    static void promise27_onlyTheFractionIsChanged() {
        LastCalled x = full();
        LastCalled twin = full();
        x.trippers(6, 0, 9, 3);
        x.owes(3);
        twin.owes(3);
        Due.holds("all else stays", seen(x).equals(seen(twin)));
    }

    // ---- promise 28: weeks

    static void promise28_seeds0And999999AreTaken_minus1And1000000AreBad() {
        bounds(Edges::seven, (x, seed) -> x.weeks(seed, 0), 0, 7, 999999, 7);
    }

    static void promise28_calls0And60AreTaken_minus1And61AreBad() {
        bounds(() -> alone(PLAIN, 0), (x, n) -> x.weeks(0, n), 0, 1, 60, 1);
    }

    static void promise28_nobodyIsThere_no() {
        refused(LastCalled::new, x -> x.weeks(0, 0), NO);
        refused(LastCalled::new, x -> x.weeks(999999, 60), NO);
        refused(() -> {
            LastCalled x = full();
            x.hamlet(0);
            return x;
        }, x -> x.weeks(5, 5), NO);
    }

    static void promise28_badIsAheadOfNo() {
        refused(LastCalled::new, x -> x.weeks(-1, 0), BAD);
        refused(LastCalled::new, x -> x.weeks(1000000, 0), BAD);
        refused(LastCalled::new, x -> x.weeks(0, -1), BAD);
        refused(LastCalled::new, x -> x.weeks(0, 61), BAD);
    }

    static void promise28_noCalls_asItIs() {
        answers(Edges::some, x -> x.weeks(999999, 0), 1);
        answers(Edges::seven, x -> x.weeks(0, 0), 7);
    }

    static void promise28_theFirstCallOfSeed0_isOfName0FromPlace0() {
        // X is 12345: by 65536 and by 1048576, cut, 0
        answers(() -> told("hamlet 0;one 0 3;one 0 3;"), x -> x.weeks(0, 1), 1);
        answers(() -> told("hamlet 0;one 0 4;one 0 4;"), x -> x.weeks(0, 1), 2);
        answers(() -> told("hamlet 0;one 0 0;none 0;"), x -> x.weeks(0, 1), 1);
    }

    static void promise28_theFirstCallOfSeed999999_byTheWholeOfX() {
        // 999999 times 1103515245 and 12345 is 1103514141497100, of which X is 1751684876: name 26728 % 7, place 1670 % 10
        int name = 2;
        int place = 0;
        for (int at = 0; at < 10; at++) {
            LastCalled hamlet = told(SEVEN.replace("one 0 0", "one 2 " + at));
            int due = Math.abs(at - place) <= 1 ? 1 : 7;
            Due.is("all at " + at + ", name " + name + " from " + place, hamlet.weeks(999999, 1), due);
        }
    }

    static void promise28_the60thCallCounts() {
        for (int seed : new int[] {0, 1, 500000, 999998, 999999}) {
            LastCalled x = told("hamlet 98;one 0 1;one 5 5;one 3 8;one 1 2;one 4 9;one 2 0;one 0 6;");
            LastCalled byHand = told("hamlet 98;one 0 1;one 5 5;one 3 8;one 1 2;one 4 9;one 2 0;one 0 6;");
            BigInteger v = BigInteger.valueOf(seed);
            for (int n = 1; n <= 60; n++) {
                v = v.multiply(BigInteger.valueOf(1103515245)).add(BigInteger.valueOf(12345))
                        .mod(BigInteger.ONE.shiftLeft(31));
                byHand.call(v.shiftRight(16).intValue() % 7, v.shiftRight(20).intValue() % 10);
                Due.is("weeks(" + seed + ", " + n + ")", x.weeks(seed, n), byHand.count(2));
            }
        }
    }

    static void promise28_nothingIsChanged() {
        answers(() -> alone(PLAIN, 0), x -> x.weeks(0, 60), 1);
        LastCalled x = full();
        LastCalled twin = full();
        x.weeks(123456, 60);
        Due.holds("all stays", seen(x).equals(seen(twin)));
    }
}
