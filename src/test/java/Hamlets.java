/** Hamlets that several tests begin with, and how to tell one. */
class Hamlets {
    static final int PLAIN = 0, CAREFUL = 1, DEAF = 2, CHILD = 3, SHEEP = 4, CLIFF = 5;
    static final int NONE = LastCalled.NONE, BAD = LastCalled.BAD, NO = LastCalled.NO, FULL = LastCalled.FULL;
    /** Seven plain ones in one place: 66 bytes. */
    static final String SEVEN = "hamlet 10;one 0 0;one 0 0;one 0 0;one 0 0;one 0 0;one 0 0;one 0 0;";

    static void type(LastCalled x, String text) {
        for (int i = 0; i < text.length(); i++) {
            x.type(text.charAt(i));
        }
    }

    static int read(LastCalled x, String text) {
        x.clear();
        type(x, text);
        return x.read();
    }

    static LastCalled told(String text) {
        LastCalled x = new LastCalled();
        Due.holds(text + " is read", read(x, text) > 0);
        return x;
    }

    static void fraction(String what, LastCalled x, long above, long below) {
        Due.is(what + " above", x.part(0), above);
        Due.is(what + " below", x.part(1), below);
    }

    static LastCalled seven() {
        return told(SEVEN);
    }

    /**
     * Some of all: four people on day 8, of whom three bear name 1 and nobody another, two deeds, two notes,
     * three to undo, image 1, a text, 25 by 2.
     */
    static LastCalled some() {
        LastCalled x = told("hamlet 7;one 0 1;one 5 5;one 3 8;one 1 2;bears 2 0;none 3;");
        x.deed(0, 25);
        x.deed(3, 4);
        x.note(1, 4, 20, 0, 1);
        x.note(0, 9, 3, 1, 0);
        x.goes(1, 6);
        x.image(1);
        x.owes(0);
        x.call(1, 3);
        x.day();
        return x;
    }

    /** As much of all as can be: seven people, six deeds, six notes, eight to undo, both images, 150 bytes. */
    static LastCalled full() {
        String text = "hamlet 98;one 0 1;one 5 5;one 3 8;one 1 2;one 4 9;one 2 0;one 0 6;bears 6 0;none 5;";
        LastCalled x = told(text + " ".repeat(150 - text.length()));
        for (int i = 0; i < 6; i++) {
            x.deed(i, 10 + i);
            x.note(i, i + 2, i + 50, i % 2, 1);
        }
        x.owes(0);
        x.image(0);
        for (int i = 0; i < 4; i++) {
            x.call(6 - i, 2 * i);
            x.goes(i, 9 - i);
            x.day();
        }
        x.image(1);
        return x;
    }
}
