/** Boundary cases of a hamlet that is told by a text: read. */
public final class EdgesTextTest extends Edges {
    public static void main(String[] args) throws IllegalAccessException {
        runCases(EdgesTextTest.class);
    }

    /** That it is read, with so many items. */
    private static LastCalled items(String text, int due) {
        LastCalled x = some();
        Due.is("items of \"" + text + "\"", read(x, text), due);
        return x;
    }

    /** That the fault is there, that all stays and nothing counts as refused. */
    private static void fault(String text, int at) {
        LastCalled x = some();
        LastCalled twin = some();
        x.clear();
        twin.clear();
        type(x, text);
        type(twin, text);
        Due.is("read of \"" + text + "\"", x.read(), -10 - at);
        Due.is("STATUS behind \"" + text + "\"", x.status(0) + x.status(1) + x.status(2), 0);
        Due.holds("all stays behind \"" + text + "\"", seen(x).equals(seen(twin)));
    }

    private static void itemBehind(String ahead, String item) {
        items(ahead + item, ahead.split(";").length + 1);
    }

    private static void faultBehind(String ahead, String item, int at) {
        fault(ahead + item, ahead.length() + at);
    }

    // ---- the text as a whole

    static void promise06_anEmptyText_faultIs0() {
        fault("", 0);
    }

    static void promise06_blanksAlone_faultIsTheLength() {
        fault(" ", 1);
        fault(" ".repeat(150), 150);
    }

    static void promise06_hamletAlone_isOneItem_nobodyIsThere() {
        LastCalled x = items("hamlet 4;", 1);
        Due.is("people", x.count(0), 0);
    }

    static void promise06_endsTooEarlyBehindEachToken_faultIsTheLength() {
        String[] tokens = {"hamlet", "12", ";", "one", "3", "4", ";", "bears", "0", "0", ";", "none", "0", ";"};
        StringBuilder text = new StringBuilder();
        int items = 0;
        for (String token : tokens) {
            text.append(token);
            if (token.equals(";")) {
                items++;
                items(text.toString(), items);
                items(text + "  ", items);
            } else {
                fault(text.toString(), text.length());
                fault(text + "  ", text.length() + 2);
            }
            text.append(' ');
        }
    }

    static void promise06_endsWithinAWord_faultIsTheWord() {
        fault("h", 0);
        fault("hamle", 0);
        faultBehind("hamlet 5;", "o", 0);
        faultBehind("hamlet 5;", "on", 0);
        faultBehind("hamlet 5;one 0 0;", "bear", 0);
        faultBehind("hamlet 5;one 0 0; ", "non", 0);
    }

    static void promise06_150BytesAreRead() {
        items("hamlet 4;" + " ".repeat(141), 1);
        items(" ".repeat(141) + "hamlet 4;", 1);
        items("hamlet" + " ".repeat(142) + "4;", 1);
    }

    static void promise06_faultAtTheLastOf150Bytes() {
        fault("hamlet 4;" + " ".repeat(140) + ";", 149);
        fault("hamlet 4;" + " ".repeat(140) + "x", 149);
        fault("hamlet 4;" + " ".repeat(140) + "!", 149);
    }

    static void promise06_150BytesEndTooEarly_faultIs150() {
        fault("hamlet 4;" + " ".repeat(138) + "one", 150);
        fault("hamlet" + " ".repeat(143) + "4", 150);
    }

    static void promise06_theMostItemsThat150BytesHold() {
        LastCalled x = items("hamlet0;one0 0;" + "none0;".repeat(22), 24);
        Due.is("bytes", x.count(6), 147);
    }

    static void promise06_theTextStays_andIsReadAgain() {
        LastCalled x = items("hamlet 4;one 0 3;none 0;", 3);
        x.call(0, 0);
        x.day();
        Due.is("bytes", x.count(6), 24);
        Due.is("again", x.read(), 3);
        Due.is("day", x.count(1), 4);
        Due.is("name", x.of(0, 2), NONE);
    }

    static void promise06_itGoesOnFromAFault_ifMoreIsTyped() {
        LastCalled x = new LastCalled();
        type(x, "hamlet 4;one 0");
        Due.is("too early", x.read(), -24);
        type(x, " 3;");
        Due.is("whole", x.read(), 2);
    }

    // ---- hamlet

    static void promise06_days0And99AreTaken_100IsAFault() {
        Due.is("day", items("hamlet 0;", 1).count(1), 0);
        Due.is("day", items("hamlet 99;", 1).count(1), 99);
        fault("hamlet 100;", 7);
        fault("hamlet -1;", 7);
    }

    static void promise06_oneFigureAndTwoAreANumber_threeAreAFaultAtTheFirst() {
        Due.is("day", items("hamlet 7;", 1).count(1), 7);
        Due.is("day", items("hamlet 07;", 1).count(1), 7);
        Due.is("day", items("hamlet 00;", 1).count(1), 0);
        fault("hamlet 007;", 7);
        fault("hamlet 000;", 7);
        fault("hamlet 0000000000000000000001;", 7);
        fault("hamlet 4294967296;", 7);
        fault("hamlet 123", 7);
        faultBehind("hamlet 5;", "one 000 0;", 4);
        faultBehind("hamlet 5;", "one 0 000;", 6);
        faultBehind("hamlet 5;one 0 0;", "bears 000 0;", 6);
        faultBehind("hamlet 5;one 0 0;", "bears 0 000;", 8);
        faultBehind("hamlet 5;one 0 0;", "none 000;", 5);
    }

    static void promise06_twoFiguresInEachNumber() {
        LastCalled x = items("hamlet 09;one 05 09;one 00 00;bears 01 00;none 00;", 5);
        Due.is("kind", x.of(0, 0), CLIFF);
        Due.is("place", x.of(0, 1), 9);
        Due.is("name", x.of(0, 2), NONE);
        Due.is("the second's", x.of(1, 2), 0);
    }

    static void promise06_hamletAgain_isAFaultAtItsWord() {
        fault("hamlet 5;hamlet 5;", 9);
        fault("hamlet 5; hamlet", 10);
        fault("hamlet 5;one 0 0;hamlet 5;", 17);
        fault("hamlet hamlet 5;", 7);
    }

    static void promise06_anythingAheadOfHamlet_isAFault() {
        fault("one 0 0;hamlet 5;", 0);
        fault("bears 0 0;", 0);
        fault(" none 0;", 1);
        fault("5;", 0);
        fault(";", 0);
        fault("  ;hamlet 5;", 2);
        fault("!hamlet 5;", 0);
    }

    // ---- one

    static void promise06_kinds0And5AreTaken_6IsAFault() {
        Due.is("kind", items("hamlet 5;one 0 4;", 2).of(0, 0), 0);
        Due.is("kind", items("hamlet 5;one 5 4;", 2).of(0, 0), 5);
        faultBehind("hamlet 5;", "one 6 4;", 4);
        faultBehind("hamlet 5;", "one 06 4;", 4);
        faultBehind("hamlet 5;", "one 99 4;", 4);
    }

    static void promise06_places0And9AreTaken_10IsAFault() {
        Due.is("place", items("hamlet 5;one 4 0;", 2).of(0, 1), 0);
        Due.is("place", items("hamlet 5;one 4 9;", 2).of(0, 1), 9);
        faultBehind("hamlet 5;", "one 4 10;", 6);
        faultBehind("hamlet 5;", "one 4 99;", 6);
    }

    static void promise06_the7thOneIsTaken_the8thIsAFaultAtItsWord() {
        LastCalled x = items(SEVEN, 8);
        Due.is("people", x.count(0), 7);
        faultBehind(SEVEN, "one 0 0;", 0);
        faultBehind(SEVEN, " one 0 0;", 1);
    }

    static void promise06_the8thOneIsAFaultAtItsWord_whateverIsBehind() {
        faultBehind(SEVEN, "one", 0);
        faultBehind(SEVEN, "one 9 99;", 0);
        faultBehind(SEVEN, "one;", 0);
    }

    static void promise06_behindSeven_otherItemsAreTaken() {
        itemBehind(SEVEN, "bears 6 6;");
        itemBehind(SEVEN, "none 6;");
    }

    // ---- bears and none

    static void promise06_bears_theLastWhoIsThereIsTaken_whoIsNotThereYetIsAFault() {
        String two = "hamlet 5;one 0 0;one 0 0;";
        Due.is("name", items(two + "bears 1 0;", 4).of(1, 2), 0);
        Due.is("name", items(two + "bears 0 1;", 4).of(0, 2), 1);
        faultBehind(two, "bears 2 0;", 6);
        faultBehind(two, "bears 0 2;", 8);
        faultBehind(two, "bears 2 0;one 0 0;", 6);
        faultBehind(two, "bears 0 2;one 0 0;", 8);
        faultBehind(SEVEN, "bears 7 0;", 6);
        faultBehind(SEVEN, "bears 0 7;", 8);
    }

    static void promise06_bears_nobodyIsThere_isAFault() {
        faultBehind("hamlet 5;", "bears 0 0;", 6);
    }

    static void promise06_none_theLastWhoIsThereIsTaken_whoIsNotThereYetIsAFault() {
        String two = "hamlet 5;one 0 0;one 0 0;";
        Due.is("name", items(two + "none 1;", 4).of(1, 2), NONE);
        faultBehind(two, "none 2;", 5);
        faultBehind(two, "none 2;one 0 0;", 5);
        faultBehind(SEVEN, "none 7;", 5);
    }

    static void promise06_none_nobodyIsThere_isAFault() {
        faultBehind("hamlet 5;", "none 0;", 5);
    }

    static void promise06_bearsTheOwn_orTheSameAgain() {
        Due.is("own", items("hamlet 5;one 0 0;bears 0 0;", 3).of(0, 2), 0);
        LastCalled x = items("hamlet 5;one 0 0;one 0 0;bears 0 1;bears 0 1;", 5);
        Due.is("bearers", x.bearers(1), 3);
        Due.is("bearers of what was left", x.bearers(0), 0);
    }

    static void promise06_bearsTakesTheNameFromNobody() {
        LastCalled x = items("hamlet 5;one 0 0;one 0 0;bears 0 1;", 4);
        Due.is("the owner", x.of(1, 2), 1);
    }

    static void promise06_noneAgain_andBearsBehindNone() {
        Due.is("none", items("hamlet 5;one 0 0;none 0;none 0;", 4).of(0, 2), NONE);
        Due.is("bears", items("hamlet 5;one 0 0;none 0;bears 0 0;", 4).of(0, 2), 0);
    }

    static void promise06_whoComesBehindBearsAndNone_bearsTheOwn() {
        LastCalled x = items("hamlet 5;one 0 0;none 0;one 0 0;bears 1 0;one 0 0;", 6);
        Due.is("the first", x.of(0, 2), NONE);
        Due.is("the second", x.of(1, 2), 0);
        Due.is("the third", x.of(2, 2), 2);
    }

    // ---- tokens

    static void promise06_aWordThatIsNone_isAFaultAtItsFirst() {
        fault("hamlets 5;", 0);
        fault("amlet 5;", 0);
        fault("tamlet 5;", 0);
        fault("hamlex 5;", 0);
        faultBehind("hamlet 5;", "ane 0 0;", 0);
        faultBehind("hamlet 5;", "ona 0 0;", 0);
        faultBehind("hamlet 5;one 0 0;", "cears 0 0;", 0);
        faultBehind("hamlet 5;one 0 0;", "beart 0 0;", 0);
        faultBehind("hamlet 5;one 0 0;", "mone 0;", 0);
        faultBehind("hamlet 5;", "ones 0 0;", 0);
        faultBehind("hamlet 5;", "two 0 0;", 0);
        faultBehind("hamlet 5; ", "oneone 0 0;", 0);
        faultBehind("hamlet 5;one 0 0;", "bear 0 0;", 0);
        faultBehind("hamlet 5;one 0 0;", "nones 0;", 0);
        faultBehind("hamlet 5;one 0 0;", "nine 0;", 0);
        faultBehind("hamlet 5;one 0 0;", "nonf 0;", 0);
    }

    static void promise06_lettersAreAToZ_signsBesideThemBeginNone() {
        faultBehind("hamlet 5;", "onea 0 0;", 0);
        faultBehind("hamlet 5;", "onez 0 0;", 0);
        faultBehind("hamlet 5;", "one` 0 0;", 3);
        faultBehind("hamlet 5;", "one{ 0 0;", 3);
        faultBehind("hamlet 5;", "oneA 0 0;", 3);
        faultBehind("hamlet 5;", "One 0 0;", 0);
        faultBehind("hamlet 5;", "`", 0);
        faultBehind("hamlet 5;", "{", 0);
    }

    static void promise06_figuresAre0To9_signsBesideThemBeginNone() {
        Due.is("day", items("hamlet 90;", 1).count(1), 90);
        fault("hamlet 9/;", 8);
        fault("hamlet 9:;", 8);
        fault("hamlet /;", 7);
        fault("hamlet :;", 7);
    }

    static void promise06_aByteThatBeginsNone_isAFaultAtItself() {
        for (int c = 0; c < 128; c++) {
            boolean begins = c == ' ' || c == ';' || c >= '0' && c <= '9' || c >= 'a' && c <= 'z';
            if (!begins) {
                Due.is("byte " + c, read(new LastCalled(), "hamlet 5 " + (char) c + ";"), -10 - 9);
                Due.is("byte " + c + " ahead", read(new LastCalled(), (char) c + "hamlet 5;"), -10);
                Due.is("byte " + c + " at the end", read(new LastCalled(), "hamlet 5;" + (char) c), -10 - 9);
            }
        }
    }

    static void promise06_onlyByte32IsABlank() {
        items("hamlet 5 ;", 1);
        fault("hamlet\t5;", 6);
        fault("hamlet\n5;", 6);
        fault("hamlet" + (char) 0 + "5;", 6);
        fault("hamlet 5;" + (char) 31, 9);
        fault("hamlet 5;" + (char) 33, 9);
    }

    static void promise06_blanksBetweenAllTokens_andNone() {
        items("   hamlet   5   ;   one   0   0   ;   none   0   ;   ", 3);
        items("hamlet5;one0 0;bears0 0;none0;", 4);
    }

    static void promise06_noBlankWithinAToken() {
        fault("ham let 5;", 0);
        fault("hamlet 5 5;", 9);
        faultBehind("hamlet 5;", "on e 0 0;", 0);
    }

    static void promise06_aNumberTooMany_isAFaultAtIt() {
        fault("hamlet 5 6;", 9);
        faultBehind("hamlet 5;", "one 0 0 0;", 8);
        faultBehind("hamlet 5;one 0 0;", "bears 0 0 0;", 10);
        faultBehind("hamlet 5;one 0 0;", "none 0 0;", 7);
    }

    static void promise06_aNumberTooFew_isAFaultAtTheStop() {
        fault("hamlet;", 6);
        faultBehind("hamlet 5;", "one;", 3);
        faultBehind("hamlet 5;", "one 0;", 5);
        faultBehind("hamlet 5;", "one 00;", 6);
        faultBehind("hamlet 5;one 0 0;", "bears 0;", 7);
        faultBehind("hamlet 5;one 0 0;", "none;", 4);
    }

    static void promise06_noStop_isAFaultAtTheNextWord() {
        fault("hamlet 5 one 0 0;", 9);
        faultBehind("hamlet 5;", "one 0 0 none 0;", 8);
        faultBehind("hamlet 5;one 0 0;", "bears 0 0 one 0 0;", 10);
        faultBehind("hamlet 5;one 0 0;", "none 0 none 0;", 7);
    }

    static void promise06_aStopWithoutAnItem_isAFaultAtIt() {
        fault("hamlet 5;;", 9);
        fault("hamlet 5; ;", 10);
        faultBehind("hamlet 5;one 0 0;", ";none 0;", 0);
    }

    static void promise06_aNumberForAWord_aWordForANumber() {
        fault("5 hamlet;", 0);
        fault("hamlet five;", 7);
        faultBehind("hamlet 5;", "0 one 0;", 0);
        faultBehind("hamlet 5;", "one one 0;", 4);
        faultBehind("hamlet 5;", "one 0 one;", 6);
        faultBehind("hamlet 5;one 0 0;", "none none;", 5);
    }

    static void promise06_theFirstOfTwoFaults() {
        fault("hamlet 100;hamlet 5;", 7);
        faultBehind("hamlet 5;", "one 6 10;", 4);
        faultBehind("hamlet 5;", "two 0 0; !", 0);
        faultBehind("hamlet 5;one 0 0;", "bears 1 1;", 6);
    }

    // ---- what it takes the place of

    static void promise06_deedsNotesAndWhatMayBeUndoneAreNone() {
        LastCalled x = full();
        Due.is("read", x.read(), 10);
        int[] due = {7, 98, 5, 0, 0, 0, 150};
        for (int what = 0; what <= 6; what++) {
            Due.is("count(" + what + ")", x.count(what), due[what]);
        }
        Due.is("none may be undone", x.undo(), NO);
        Due.is("unpaid", x.unpaid(), 0);
        Due.is("is", x.is(0), 63);
    }

    static void promise06_theSameAsOfANewObject() {
        String text = "hamlet 11;one 4 2;one 1 7;bears 0 1;";
        LastCalled x = full();
        read(x, text);
        LastCalled fresh = told(text);
        x.trippers(0, 0, 0, 0);
        fresh.trippers(0, 0, 0, 0);
        Due.is("digest", x.digest(), fresh.digest());
    }

    static void promise06_imagesFractionAndStatusStay() {
        LastCalled x = some();
        x.from(0);
        read(x, "hamlet 5;");
        fraction("25 by 2", x, 25, 2);
        Due.is("NO", x.status(1), 1);
        Due.is("never kept", x.from(0), NO);
        Due.is("kept", x.from(1), 1);
        Due.is("people", x.count(0), 4);
    }

    static void promise06_aFaultBehindGoodItems_leavesTheHamletWhole() {
        fault("hamlet 50;one 4 2;one 1 7;bears 0 1;none 1;one 6 0;", 47);
    }
}
