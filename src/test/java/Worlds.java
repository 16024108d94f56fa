/** Worlds that tests begin with, and the numbers of the document by their names. */
final class Worlds {
    static final int ROOM = 0, THING = 1, DOOR = 2, BOX = 3, STAND = 4, PERSON = 5;
    static final int OPEN = 0, LOCKED = 1, LIT = 2, FIXED = 3, GARMENT = 4, GLASS = 5;
    static final int IN = 0, ON = 1, HELD = 2, WORN = 3, PART = 4, EXIT = 5, FLAG = 6, KEY = 7;
    static final int GO = 0, TAKE = 1, DROP = 2, PUT_IN = 3, PUT_ON = 4, UNCLOSE = 5, CLOSE = 6, UNLOCK = 7, LOCK = 8,
            WEAR = 9, ENTER = 10, LEAVE = 11, WAIT = 12;
    static final int NOTHING = 1, BEYOND = 2, UNLIKE = 3, NOUGHT = 4, SIZE = 5, MISFIT = 6;
    static final int BYTES = 0, INTS = 1, FLOATS = 2, LONGS = 3;

    private Worlds() {
    }

    /** Room 0 and person 1 in it, of size 10. */
    static TalePlay roomAndMan() {
        TalePlay x = new TalePlay();
        x.make(ROOM, 0);
        x.make(PERSON, 10);
        say(x, IN, 1, 0, 0);
        return x;
    }

    /** Objects 0 to 5, one of each kind, and 6 to 11 likewise; each is as large as its number. */
    static TalePlay twelve() {
        TalePlay x = new TalePlay();
        for (int o = 0; o < 12; o++) {
            x.make(o % 6, o);
        }
        return x;
    }

    /** So many rooms, then so many doors. */
    static TalePlay rooms(int rooms, int doors) {
        TalePlay x = new TalePlay();
        for (int o = 0; o < rooms + doors; o++) {
            x.make(o < rooms ? ROOM : DOOR, 1);
        }
        return x;
    }

    static int thing(TalePlay x, int kind, int size, int form, int where) {
        int o = x.make(kind, size);
        say(x, form, o, where, 0);
        return o;
    }

    static void flag(TalePlay x, int object, int flag, int v) {
        say(x, FLAG, object, flag, v);
    }

    /** A sentence that the world of a test can't do without. */
    static int say(TalePlay x, int form, int a, int b, int c) {
        int s = x.say(form, a, b, c);
        if (s < 0) {
            throw new IllegalStateException("say(" + form + ", " + a + ", " + b + ", " + c + ") answered " + s);
        }
        return s;
    }
}
