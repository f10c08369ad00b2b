import java.math.BigInteger;

/** Boundary cases of "what there is": part, image, from, status, count, digest. */
public final class EdgesThereTest extends Edges {
    public static void main(String[] args) throws IllegalAccessException {
        runCases(EdgesThereTest.class);
    }

    private static void counts(LastCalled x, int... due) {
        for (int what = 0; what < due.length; what++) {
            Due.is("count(" + what + ")", x.count(what), due[what]);
        }
    }

    /** As the document tells it, in numbers without a bound; the last 64 bits are kept at the end. */
    private static long mixed(long... values) {
        BigInteger h = BigInteger.valueOf(1201);
        for (long v : values) {
            h = h.multiply(BigInteger.valueOf(31)).add(BigInteger.valueOf(v));
        }
        return h.longValue();
    }

    // ---- promise 29: part

    static void promise29_whats0And1AreTaken_minus1And2AreBad() {
        bounds(Edges::some, (x, what) -> x.part(what), 0, 25, 1, 2);
        bounds(LastCalled::new, (x, what) -> x.part(what), 0, 0, 1, 1);
    }

    static void promise29_atFirst_0By1() {
        answers(LastCalled::new, x -> x.part(0), 0);
        answers(LastCalled::new, x -> x.part(1), 1);
    }

    static void promise29_a0IsAlways0By1() {
        LastCalled x = told(SEVEN + "bears 0 1;bears 2 1;");
        x.owes(1);
        fraction("0 pence by three", x, 0, 1);
        x.trippers(6, 0, 9, 3);
        fraction("no chance", x, 0, 1);
    }

    static void promise29_aWholeIsBy1() {
        LastCalled x = told("hamlet 0;one 0 0;one 0 0;bears 0 1;");
        x.deed(1, 60);
        x.owes(1);
        fraction("60 by two", x, 30, 1);
        x.trippers(0, 1, 9, 3);
        fraction("for sure", x, 1, 1);
    }

    static void promise29_theGreatestBelow() {
        LastCalled x = seven();
        x.trippers(0, 0, 0, 3);
        fraction("of seven by 3: 7000000 and 2187", x, 7002187, 10000000);
    }

    static void promise29_whatIsRefusedLeavesIt() {
        LastCalled x = some();
        x.owes(4);
        x.owes(-1);
        x.trippers(0, 0, 0, 11);
        x.trippers(4, 0, 0, 0);
        fraction("25 by 2", x, 25, 2);
    }

    // ---- promise 30: image

    static void promise30_images0And1AreTaken_minus1And2AreBad() {
        bounds(Edges::some, LastCalled::image, 0, 1, 1, 1);
        bounds(LastCalled::new, LastCalled::image, 0, 1, 1, 1);
    }

    static void promise30_ofNobody() {
        LastCalled x = new LastCalled();
        x.image(0);
        x.one(PLAIN, 0);
        x.deed(0, 1);
        x.note(0, 0, 0, 0, 0);
        x.day();
        Due.is("from", x.from(0), 1);
        counts(x, 0, 0, 0, 0, 0, 0, 0);
    }

    static void promise30_aLaterOneTakesThePlaceOfAnEarlier() {
        LastCalled x = full();
        x.hamlet(3);
        Due.is("image", x.image(1), 1);
        x.from(0);
        Due.is("from", x.from(1), 1);
        counts(x, 0, 3, 0, 0, 0, 0, 150);
    }

    static void promise30_theOtherStays() {
        LastCalled x = full();
        x.hamlet(3);
        x.image(1);
        Due.is("from", x.from(0), 1);
        counts(x, 7, 98, 5, 6, 6, 0, 150);
    }

    static void promise30_itChangesNothingElse() {
        LastCalled x = full();
        LastCalled twin = full();
        x.image(1);
        Due.holds("the same image again", seen(x).equals(seen(twin)));
    }

    static void promise30_whatComesBehindDoesNotReachIt() {
        LastCalled x = told("hamlet 0;one 0 0;one 0 9;");
        x.deed(0, 5);
        x.note(0, 1, 2, 0, 1);
        x.goes(0, 2);
        x.image(0);
        long due = x.digest();
        x.undo();
        x.call(1, 0);
        x.goes(0, 7);
        x.day();
        x.forget(0);
        x.forget(1);
        x.deed(1, 9);
        x.note(1, 9, 9, 1, 0);
        x.one(SHEEP, 3);
        x.from(0);
        Due.is("digest", x.digest(), due);
        Due.is("undo", x.undo(), 0);
        Due.is("place", x.of(0, 1), 0);
    }

    static void promise30_allThatIsFullIsKeptWhole() {
        LastCalled x = full();
        LastCalled twin = full();
        x.hamlet(0);
        for (int p = 0; p < 7; p++) {
            x.one(DEAF, 4);
        }
        for (int i = 0; i < 6; i++) {
            x.deed(6, 60);
            x.note(6, 9, 99, 1, 0);
        }
        for (int i = 0; i < 8; i++) {
            x.goes(6, 3);
            x.day();
        }
        Due.is("from", x.from(1), 1);
        Due.holds("all is as it was", seen(x).equals(seen(twin)));
    }

    // ---- promise 31: from

    static void promise31_images0And1AreTaken_minus1And2AreBad() {
        bounds(Edges::full, LastCalled::from, 0, 1, 1, 1);
    }

    static void promise31_neverKept_no() {
        refused(LastCalled::new, x -> x.from(0), NO);
        refused(LastCalled::new, x -> x.from(1), NO);
        refused(Edges::some, x -> x.from(0), NO);
    }

    static void promise31_badIsAheadOfNo() {
        refused(LastCalled::new, x -> x.from(-1), BAD);
        refused(LastCalled::new, x -> x.from(2), BAD);
    }

    static void promise31_refusedImage_keepsNone() {
        LastCalled x = new LastCalled();
        x.image(2);
        x.image(-1);
        Due.is("from(0)", x.from(0), NO);
        Due.is("from(1)", x.from(1), NO);
    }

    static void promise31_all8ThatMayBeUndone() {
        LastCalled x = full();
        x.hamlet(0);
        x.from(1);
        Due.is("may be undone", x.count(5), 8);
        for (int i = 0; i < 8; i++) {
            Due.is("undo", x.undo(), 102 - (i + 3) / 3);
        }
        Due.is("no more", x.undo(), NO);
    }

    static void promise31_ofAnImageWithNothingToUndo_none() {
        LastCalled x = full();
        x.from(0);
        Due.is("may be undone", x.count(5), 0);
        Due.is("undo", x.undo(), NO);
    }

    static void promise31_asOftenAsOneLikes() {
        LastCalled x = full();
        long due = x.digest();
        for (int i = 0; i < 5; i++) {
            x.undo();
            x.forget(0);
            x.goes(0, i);
            Due.is("from", x.from(1), 1);
            Due.is("digest", x.digest(), due);
        }
    }

    static void promise31_itIsNotUndone() {
        LastCalled x = full();
        x.from(0);
        x.day();
        Due.is("undo", x.undo(), 98);
        Due.is("no more", x.undo(), NO);
    }

    static void promise31_fromOneThenTheOther() {
        LastCalled x = told("hamlet 1;");
        x.image(0);
        x.hamlet(2);
        x.image(1);
        x.from(0);
        Due.is("the first", x.count(1), 1);
        x.from(1);
        Due.is("the second", x.count(1), 2);
    }

    static void promise31_textFractionAndStatusStay() {
        LastCalled x = some();
        x.clear();
        x.type('h');
        x.trippers(0, 0, 0, 10);
        x.one(6, 6);
        x.from(0);
        x.from(1);
        Due.is("bytes", x.count(6), 1);
        fraction("0 by 1", x, 0, 1);
        Due.is("BAD", x.status(0), 1);
        Due.is("NO", x.status(1), 1);
    }

    static void promise31_theImagesStay() {
        LastCalled x = full();
        x.from(0);
        Due.is("the other", x.from(1), 1);
        Due.is("its day", x.count(1), 102);
    }

    // ---- promise 32: status

    static void promise32_whats0And2AreTaken_minus1And3AreMinus1() {
        taken(Edges::some, x -> x.status(0), 0);
        taken(Edges::some, x -> x.status(2), 0);
        badBeyond(Edges::some, LastCalled::status, 0, 2, -1);
    }

    static void promise32_anotherWhat_countsAsBad() {
        LastCalled x = new LastCalled();
        x.status(3);
        x.status(-1);
        Due.is("BAD", x.status(0), 2);
        Due.is("NO", x.status(1), 0);
        Due.is("FULL", x.status(2), 0);
    }

    static void promise32_eachReasonCountsByItself() {
        LastCalled x = full();
        x.undo();
        x.one(6, 0);
        x.one(0, 0);
        x.type(0);
        x.from(2);
        x.of(7, 0);
        LastCalled y = new LastCalled();
        y.undo();
        y.from(0);
        y.weeks(0, 0);
        y.names(2);
        Due.is("BAD", x.status(0), 3);
        Due.is("NO", x.status(1), 0);
        Due.is("FULL", x.status(2), 2);
        Due.is("BAD", y.status(0), 1);
        Due.is("NO", y.status(1), 3);
        Due.is("FULL", y.status(2), 0);
    }

    static void promise32_manyWrongNumbers_countOnce() {
        refused(Edges::some, x -> x.note(-1, 10, 100, 2, 2), BAD);
        refused(Edges::some, x -> x.ears(4, 4, 4, 10), BAD);
        refused(Edges::some, x -> x.trippers(-1, -1, -1, -1), BAD);
        refused(Edges::some, x -> x.calls(4, 4, 2), BAD);
        refused(Edges::full, x -> x.one(6, 10), BAD);
        refused(LastCalled::new, x -> x.weeks(1000000, 61), BAD);
    }

    static void promise32_ofAnswersMinus10_countsAsBad() {
        refusedAs("of", Edges::some, x -> x.of(4, 0), -10, BAD);
    }

    static void promise32_whatIsNoRefusal_doesNotCount() {
        answers(Edges::some, x -> x.of(3, 2), NONE);
        answers(Edges::some, x -> x.calls(3, 0, 0), NONE);
        answers(() -> told("hamlet 0;one 0 0;"), x -> x.own(2), NONE);
        LastCalled x = some();
        x.type('!');
        x.read();
        Due.is("a fault of the text", x.status(0) + x.status(1) + x.status(2), 0);
    }

    static void promise32_nothingSetsItBack() {
        LastCalled x = full();
        x.one(0, 0);
        x.hamlet(0);
        x.undo();
        x.read();
        x.from(0);
        x.clear();
        x.hamlet(100);
        Due.is("BAD", x.status(0), 1);
        Due.is("NO", x.status(1), 1);
        Due.is("FULL", x.status(2), 1);
    }

    static void promise32_ofAll512Calls() {
        LastCalled x = new LastCalled();
        for (int i = 0; i < 511; i++) {
            x.undo();
        }
        Due.is("NO", x.status(1), 511);
    }

    // ---- promise 33: count

    static void promise33_whats0And6AreTaken_minus1And7AreBad() {
        bounds(Edges::some, LastCalled::count, 0, 4, 6, 58);
        bounds(LastCalled::new, LastCalled::count, 0, 0, 6, 0);
    }

    static void promise33_ofNothing() {
        counts(new LastCalled(), 0, 0, 0, 0, 0, 0, 0);
    }

    static void promise33_ofSome() {
        counts(some(), 4, 8, 1, 2, 2, 3, 58);
    }

    static void promise33_ofAsMuchAsCanBe() {
        LastCalled x = full();
        int owners = 0;
        for (int p = 0; p < 7; p++) {
            owners += x.of(p, 2) == p ? 1 : 0;
        }
        counts(x, 7, 102, owners, 6, 6, 8, 150);
        counts(seven(), 7, 10, 7, 0, 0, 0, 66);
    }

    static void promise33_whoBearTheirOwn_none_one_allSeven() {
        LastCalled x = told(SEVEN + "none 0;none 1;none 2;none 3;none 4;none 5;none 6;");
        Due.is("none", x.count(2), 0);
        x.call(6, 0);
        Due.is("of all who bear the last one's", x.count(2), 1);
        Due.is("all", seven().count(2), 7);
    }

    // ---- promise 34: digest

    static void promise34_ofANewObject() {
        answers(LastCalled::new, LastCalled::digest, mixed(0, 0, 0, 0, 0, 0, 0, 0, 1));
    }

    static void promise34_ofSome() {
        answers(Edges::some, LastCalled::digest, mixed(4, 8, 1, 2, 2, 3, 58, 0, 1, 1, 5, 6, 1, 3, 8, 1, 1, 2, -1,
                0, 25, 3, 4, 1, 4, 20, 0, 1, 0, 9, 3, 1, 0, 25, 2));
    }

    static void promise34_ofAsMuchAsCanBe_itGoesRoundAt64Bits() {
        LastCalled x = full();
        long[] v = new long[7 + 21 + 12 + 30 + 2];
        int at = 0;
        for (int what = 0; what < 7; what++) {
            v[at++] = x.count(what);
        }
        for (int i = 0; i < 21; i++) {
            v[at++] = x.of(i / 3, i % 3);
        }
        for (int i = 0; i < 6; i++) {
            v[at++] = i;
            v[at++] = 10 + i;
        }
        for (int i = 0; i < 6; i++) {
            long[] note = {i, i + 2, i + 50, i % 2, 1};
            for (long part : note) {
                v[at++] = part;
            }
        }
        v[at++] = x.part(0);
        v[at] = x.part(1);
        Due.is("digest", x.digest(), mixed(v));
    }

    static void promise34_whoBearsNone_minus1() {
        LastCalled x = told("hamlet 0;one 0 0;none 0;");
        Due.is("digest", x.digest(), mixed(1, 0, 0, 0, 0, 0, 24, 0, 0, -1, 0, 1));
    }

    static void promise34_whatIsForgottenIsNotInIt() {
        LastCalled x = some();
        x.forget(0);
        x.forget(1);
        Due.is("digest", x.digest(), mixed(4, 8, 1, 0, 0, 3, 58, 0, 1, 1, 5, 6, 1, 3, 8, 1, 1, 2, -1, 25, 2));
    }

    static void promise34_statusImagesAndWhatTheTextSays_areNotInIt() {
        LastCalled x = some();
        long due = x.digest();
        x.status(9);
        x.image(0);
        x.image(1);
        x.clear();
        type(x, "x".repeat(58));
        Due.is("digest", x.digest(), due);
    }

    static void promise34_theOrderOfDeedsAndNotesCounts() {
        LastCalled x = told("hamlet 0;one 0 0;one 0 0;");
        x.deed(1, 60);
        x.deed(0, 1);
        x.note(1, 9, 99, 1, 1);
        x.note(0, 0, 0, 0, 0);
        Due.is("digest", x.digest(), mixed(2, 0, 2, 2, 2, 0, 25, 0, 0, 0, 0, 0, 1, 1, 60, 0, 1, 1, 9, 99, 1, 1, 0, 0, 0, 0, 0,
                0, 1));
    }
}
