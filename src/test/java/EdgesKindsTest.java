/** Boundary cases of the kinds: how far off one still turns, at one's own name, at another's, at nobody's. */
public final class EdgesKindsTest extends Edges {
    private static final int NEVER = -1;

    public static void main(String[] args) throws IllegalAccessException {
        runCases(EdgesKindsTest.class);
    }

    /** One of that kind turns up to so far and no further, on either side, from wherever he stands. */
    private static void turnsUpTo(int far, int kind, int day, String rest, int name) {
        for (int at = 0; at < 10; at++) {
            LastCalled x = told("hamlet " + day + ";one " + kind + " " + at + ";" + rest);
            for (int place = 0; place < 10; place++) {
                boolean turns = at - place <= far && place - at <= far;
                Due.is("kind " + kind + " at " + at + ", called from " + place, x.turn(name, place) & 1, turns ? 1 : 0);
            }
        }
    }

    private static void atOwn(int far, int kind, int day) {
        turnsUpTo(far, kind, day, "", 0);
        turnsUpTo(far, kind, day, "one 1 0;bears 1 0;", 0);
        turnsUpTo(far, kind, day, "one 1 0;bears 0 1;none 1;", 1);
    }

    private static void atAnothers(int far, int kind, int day) {
        turnsUpTo(far, kind, day, "one 1 0;", 1);
        turnsUpTo(far, kind, day, "one 1 0;none 0;", 1);
        turnsUpTo(far, kind, day, "one 1 0;bears 1 0;none 0;", 0);
    }

    private static void atNobodys(int far, int kind, int day) {
        turnsUpTo(far, kind, day, "one 1 0;none 1;", 1);
        turnsUpTo(far, kind, day, "none 0;", 0);
        turnsUpTo(far, kind, day, "one 1 0;bears 1 0;", 1);
    }

    static void promise07_plain_turnsAt3_notAt4_whoeverBearsIt() {
        for (int day = 0; day < 2; day++) {
            atOwn(3, PLAIN, day);
            atAnothers(3, PLAIN, day);
            atNobodys(3, PLAIN, day);
        }
    }

    static void promise07_careful_turnsAtTheOwnAt3_notAt4() {
        atOwn(3, CAREFUL, 0);
        atOwn(3, CAREFUL, 1);
    }

    static void promise07_careful_neverTurnsAtAnothersOrNobodys() {
        for (int day = 0; day < 2; day++) {
            atAnothers(NEVER, CAREFUL, day);
            atNobodys(NEVER, CAREFUL, day);
        }
    }

    static void promise07_deaf_turnsAt1_notAt2_whoeverBearsIt() {
        for (int day = 0; day < 2; day++) {
            atOwn(1, DEAF, day);
            atAnothers(1, DEAF, day);
            atNobodys(1, DEAF, day);
        }
    }

    static void promise07_child_turnsAt6_notAt7_whoeverBearsIt() {
        for (int day = 0; day < 2; day++) {
            atOwn(6, CHILD, day);
            atAnothers(6, CHILD, day);
            atNobodys(6, CHILD, day);
        }
    }

    static void promise07_sheep_turnsAt6_notAt7_onAnEvenDay() {
        for (int day : new int[] {0, 2, 98}) {
            atOwn(6, SHEEP, day);
            atAnothers(6, SHEEP, day);
            atNobodys(6, SHEEP, day);
        }
    }

    static void promise07_sheep_neverTurnsOnAnOddDay() {
        for (int day : new int[] {1, 3, 99}) {
            atOwn(NEVER, SHEEP, day);
            atAnothers(NEVER, SHEEP, day);
            atNobodys(NEVER, SHEEP, day);
        }
    }

    static void promise07_sheep_onTheDayBehind99() {
        LastCalled x = told("hamlet 99;one 4 0;");
        Due.is("on day 99", x.turn(0, 0), 0);
        x.day();
        Due.is("on day 100", x.turn(0, 0), 1);
        x.day();
        Due.is("on day 101", x.turn(0, 0), 0);
    }

    static void promise07_cliff_turnsAtTheOwnAt3_notAt4() {
        atOwn(3, CLIFF, 0);
        atOwn(3, CLIFF, 1);
    }

    static void promise07_cliff_neverTurnsAtAnothers() {
        atAnothers(NEVER, CLIFF, 0);
        atAnothers(NEVER, CLIFF, 1);
    }

    static void promise07_cliff_turnsAtNobodysAt6_notAt7() {
        atNobodys(6, CLIFF, 0);
        atNobodys(6, CLIFF, 1);
    }

    static void promise12_allKindsTogether_atEachDistance() {
        // all at place 0 on an even day; name 0 is the plain one's
        LastCalled x = told("hamlet 0;one 0 0;one 1 0;one 2 0;one 3 0;one 4 0;one 5 0;");
        int[] atPlains = {29, 29, 25, 25, 24, 24, 24, 0, 0, 0};
        int[] atCarefuls = {31, 31, 27, 27, 24, 24, 24, 0, 0, 0};
        int[] atCliffs = {61, 61, 57, 57, 24, 24, 24, 0, 0, 0};
        int[] atNobodys = {61, 61, 57, 57, 56, 56, 56, 0, 0, 0};
        for (int place = 0; place < 10; place++) {
            Due.is("the plain one's from " + place, x.turn(0, place), atPlains[place]);
            Due.is("the careful one's from " + place, x.turn(1, place), atCarefuls[place]);
            Due.is("the cliff's from " + place, x.turn(5, place), atCliffs[place]);
        }
        read(x, "hamlet 0;one 0 0;one 1 0;one 2 0;one 3 0;one 4 0;one 5 0;none 0;");
        for (int place = 0; place < 10; place++) {
            Due.is("nobody's from " + place, x.turn(0, place), atNobodys[place]);
        }
    }
}
