/** Promises 28 to 34: lines, casts. */
public final class LinesTest {
    private static final int BAD = TalePlay.BAD, FULL = TalePlay.FULL, NONE = TalePlay.NONE;
    private static final int NOTHING = 1, BEYOND = 2, UNLIKE = 3, SIZE = 5, MISFIT = 6;
    private static final int BYTES = 0, INTS = 1, FLOATS = 2, LONGS = 3;
    private static final Due due = new Due("LinesTest");

    public static void main(String[] args) {
        lines();
        items();
        cuts();
        floats();
        copies();
        refusedCopies();
        casts();
        roles();
        whose();
        due.done();
    }

    /** Objects 0 to 5, one of each kind, and 6 to 11 likewise. */
    private static TalePlay twelve() {
        TalePlay x = new TalePlay();
        for (int o = 0; o < 12; o++) {
            x.make(o % 6, o);
        }
        return x;
    }

    private static void itemIs(TalePlay x, int object, int sort, int i, long v) {
        due.be("item(" + object + ", " + sort + ", " + i + ")", x.item(object, sort, i), 1);
        due.be("asked() of it", x.asked(), v);
    }

    private static void lines() {
        TalePlay x = twelve();
        due.be("line(12, 0, 1)", x.line(12, 0, 1), BAD);
        due.be("line(-1, 0, 1)", x.line(-1, 0, 1), BAD);
        due.be("line(0, 4, 1)", x.line(0, 4, 1), BAD);
        due.be("line(0, -1, 1)", x.line(0, -1, 1), BAD);
        due.be("line(0, 0, 13)", x.line(0, 0, 13), BAD);
        due.be("line(12, 0, -1): BAD ahead of SIZE", x.line(12, 0, -1), BAD);
        due.be("line(0, 4, -1): BAD ahead of SIZE", x.line(0, 4, -1), BAD);
        due.find("line(0, 0, -1)", x, x.line(0, 0, -1), SIZE);
        due.find("line(0, 0, least)", x, x.line(0, 0, Integer.MIN_VALUE), SIZE);
        due.find("item(0, 0, 0): refused ones make none", x, x.item(0, 0, 0), NOTHING);
        for (int sort = BYTES; sort <= LONGS; sort++) {
            due.be("line(sort, sort, 12)", x.line(sort, sort, 12), 12);
            itemIs(x, sort, sort, 0, 0);
            itemIs(x, sort, sort, 11, 0);
            x.put(sort, sort, 11, 5);
            itemIs(x, sort, sort, 11, 5);
        }
        due.find("line(0, 0, -1): what is refused leaves it", x, x.line(0, 0, -1), SIZE);
        itemIs(x, 0, BYTES, 11, 5);
        x.put(0, BYTES, 0, 6);
        due.be("line(0, BYTES, 12) anew", x.line(0, BYTES, 12), 12);
        itemIs(x, 0, BYTES, 11, 0);
        itemIs(x, 0, BYTES, 0, 0);
        due.be("line(1, LONGS, 2)", x.line(1, LONGS, 2), 2);
        due.find("item(1, INTS, 0)", x, x.item(1, INTS, 0), UNLIKE);
        itemIs(x, 1, LONGS, 1, 0);
        due.be("line(2, INTS, 0)", x.line(2, INTS, 0), 0);
        due.find("item(2, INTS, 0) of an empty line", x, x.item(2, INTS, 0), BEYOND);
        due.find("item(2, BYTES, 0) of an empty line", x, x.item(2, BYTES, 0), UNLIKE);
        itemIs(x, 3, LONGS, 11, 5);
    }

    private static void items() {
        TalePlay x = twelve();
        due.find("put(0, 0, 0, 1)", x, x.put(0, 0, 0, 1), NOTHING);
        due.find("put(0, 0, -1, 1)", x, x.put(0, 0, -1, 1), NOTHING);
        due.find("item(0, 0, 0)", x, x.item(0, 0, 0), NOTHING);
        x.line(0, INTS, 3);
        due.be("put(12, INTS, 0, 1)", x.put(12, INTS, 0, 1), BAD);
        due.be("put(-1, INTS, 0, 1)", x.put(-1, INTS, 0, 1), BAD);
        due.be("put(0, 4, 0, 1)", x.put(0, 4, 0, 1), BAD);
        due.be("put(0, -1, 0, 1)", x.put(0, -1, 0, 1), BAD);
        due.be("item(12, INTS, 0)", x.item(12, INTS, 0), BAD);
        due.be("item(-1, INTS, 0)", x.item(-1, INTS, 0), BAD);
        due.be("item(0, 4, 0)", x.item(0, 4, 0), BAD);
        due.be("item(0, -1, 0)", x.item(0, -1, 0), BAD);
        due.find("put(0, LONGS, 0, 1)", x, x.put(0, LONGS, 0, 1), UNLIKE);
        due.find("put(0, LONGS, 9, 1): UNLIKE ahead of BEYOND", x, x.put(0, LONGS, 9, 1), UNLIKE);
        due.find("item(0, BYTES, 9): UNLIKE ahead of BEYOND", x, x.item(0, BYTES, 9), UNLIKE);
        due.find("put(0, INTS, 3, 1)", x, x.put(0, INTS, 3, 1), BEYOND);
        due.find("put(0, INTS, -1, 1)", x, x.put(0, INTS, -1, 1), BEYOND);
        due.find("item(0, INTS, 3)", x, x.item(0, INTS, 3), BEYOND);
        due.find("item(0, INTS, -1)", x, x.item(0, INTS, -1), BEYOND);
        due.be("asked() stays", x.asked(), 0);
        due.be("put(0, INTS, 2, 9)", x.put(0, INTS, 2, 9), 1);
        due.be("put(0, INTS, 0, 7)", x.put(0, INTS, 0, 7), 1);
        due.be("asked() is not told by put()", x.asked(), 0);
        itemIs(x, 0, INTS, 2, 9);
        itemIs(x, 0, INTS, 1, 0);
        itemIs(x, 0, INTS, 0, 7);
        due.find("item(0, INTS, 3)", x, x.item(0, INTS, 3), BEYOND);
        due.be("asked() stays", x.asked(), 7);
    }

    private static void cuts() {
        TalePlay x = twelve();
        for (int sort = BYTES; sort <= LONGS; sort++) {
            x.line(sort, sort, 1);
        }
        long[] told = {0, 1, -1, 127, 128, 255, 256, -129, Integer.MAX_VALUE, 1L << 31, 1L << 32, (1L << 40) + 5,
            Long.MAX_VALUE, Long.MIN_VALUE};
        for (long v : told) {
            x.put(0, BYTES, 0, v);
            itemIs(x, 0, BYTES, 0, (byte) v);
            x.put(1, INTS, 0, v);
            itemIs(x, 1, INTS, 0, (int) v);
            x.put(3, LONGS, 0, v);
            itemIs(x, 3, LONGS, 0, v);
        }
    }

    private static void floats() {
        TalePlay x = twelve();
        x.line(0, FLOATS, 2);
        x.line(1, FLOATS, 2);
        long noNumber = 2143289344L;
        long[][] pairs = {{0, 0}, {0x3f800000L, 0x3f800000L}, {0x7f800000L, 0x7f800000L}, {0x7f800001L, noNumber},
            {0x7fc00000L, noNumber}, {0x7fffffffL, noNumber}, {0xff800000L, (int) 0xff800000L},
            {0xff800001L, noNumber}, {0xffffffffL, noNumber}, {-1, noNumber}, {0x80000000L, (int) 0x80000000L},
            {0xbf800000L, (int) 0xbf800000L}, {1, 1}, {(7L << 32) + 9, 9}, {Long.MIN_VALUE, 0},
            {Long.MAX_VALUE, noNumber}};
        for (long[] pair : pairs) {
            x.put(0, FLOATS, 1, pair[0]);
            itemIs(x, 0, FLOATS, 1, pair[1]);
            x.copy(0, FLOATS, 0, 1, 0, 2);
            itemIs(x, 1, FLOATS, 1, pair[1]);
        }
    }

    private static void row(TalePlay x, int object, int... want) {
        for (int i = 0; i < want.length; i++) {
            itemIs(x, object, INTS, i, want[i]);
        }
    }

    private static void fill(TalePlay x, int object, int... items) {
        x.line(object, INTS, items.length);
        for (int i = 0; i < items.length; i++) {
            x.put(object, INTS, i, items[i]);
        }
    }

    private static void copies() {
        TalePlay x = twelve();
        fill(x, 0, 1, 2, 3, 4, 5);
        fill(x, 1, 11, 12, 13);
        due.be("copy(0, INTS, 3, 1, 1, 2)", x.copy(0, INTS, 3, 1, 1, 2), 1);
        row(x, 1, 11, 4, 5);
        row(x, 0, 1, 2, 3, 4, 5);
        due.be("copy(0, INTS, 0, 0, 1, 4)", x.copy(0, INTS, 0, 0, 1, 4), 1);
        row(x, 0, 1, 1, 2, 3, 4);
        due.be("copy(0, INTS, 2, 0, 0, 3)", x.copy(0, INTS, 2, 0, 0, 3), 1);
        row(x, 0, 2, 3, 4, 3, 4);
        due.be("copy(0, INTS, 5, 1, 3, 0)", x.copy(0, INTS, 5, 1, 3, 0), 1);
        due.be("copy(1, INTS, 0, 0, 2, 3)", x.copy(1, INTS, 0, 0, 2, 3), 1);
        row(x, 0, 2, 3, 11, 4, 5);
        x.line(2, INTS, 0);
        due.be("copy(2, INTS, 0, 2, 0, 0)", x.copy(2, INTS, 0, 2, 0, 0), 1);
    }

    private static void refusedCopies() {
        TalePlay x = twelve();
        fill(x, 0, 1, 2, 3);
        fill(x, 1, 11, 12, 13);
        x.line(2, LONGS, 3);
        int max = Integer.MAX_VALUE;
        due.be("copy(12, ..)", x.copy(12, INTS, 0, 1, 0, 1), BAD);
        due.be("copy(-1, ..)", x.copy(-1, INTS, 0, 1, 0, 1), BAD);
        due.be("copy(0, .., 12, ..)", x.copy(0, INTS, 0, 12, 0, 1), BAD);
        due.be("copy(0, .., -1, ..)", x.copy(0, INTS, 0, -1, 0, 1), BAD);
        due.be("copy(0, 4, ..)", x.copy(0, 4, 0, 1, 0, 1), BAD);
        due.be("copy(0, -1, ..)", x.copy(0, -1, 0, 1, 0, 1), BAD);
        due.find("copy: the first is of another sort", x, x.copy(2, INTS, 0, 1, 0, 1), UNLIKE);
        due.find("copy: the other is of another sort", x, x.copy(0, INTS, 0, 2, 0, 1), UNLIKE);
        due.find("copy: both are", x, x.copy(0, BYTES, 0, 1, 0, 1), UNLIKE);
        due.find("copy: the first has none, the other is unlike", x, x.copy(3, INTS, 0, 2, 0, 1), UNLIKE);
        due.find("copy: the first is unlike, the other has none", x, x.copy(2, INTS, 0, 3, 0, 1), UNLIKE);
        due.find("copy: the first has none", x, x.copy(3, INTS, 0, 1, 0, 1), NOTHING);
        due.find("copy: the other has none", x, x.copy(0, INTS, 0, 3, 0, 1), NOTHING);
        due.find("copy: NOTHING ahead of BEYOND", x, x.copy(0, INTS, 9, 3, 0, 1), NOTHING);
        due.find("copy: UNLIKE ahead of BEYOND", x, x.copy(0, INTS, 9, 2, 0, -1), UNLIKE);
        int[][] beyond = {{-1, 0, 1}, {0, -1, 1}, {0, 0, -1}, {0, 0, 4}, {3, 0, 1}, {0, 3, 1}, {1, 0, 3}, {0, 2, 2},
            {4, 0, 0}, {0, 4, 0}, {max, 0, 1}, {0, max, 1}, {1, 1, max}, {max, max, max}, {3, 3, -1}, {-1, -1, 0}};
        for (int[] b : beyond) {
            due.find("copy(0, INTS, " + b[0] + ", 1, " + b[1] + ", " + b[2] + ")", x,
                    x.copy(0, INTS, b[0], 1, b[1], b[2]), BEYOND);
        }
        row(x, 1, 11, 12, 13);
        row(x, 0, 1, 2, 3);
    }

    private static void casts() {
        TalePlay x = twelve();
        due.be("cast(0, 1)", x.cast(0, 1), BAD);
        due.be("cast(6, 1)", x.cast(6, 1), BAD);
        due.be("cast(1, 13)", x.cast(1, 13), BAD);
        due.be("cast(0, -1): BAD ahead of SIZE", x.cast(0, -1), BAD);
        due.find("cast(1, -1)", x, x.cast(1, -1), SIZE);
        for (int c = 0; c < 10; c++) {
            due.be("cast(1 + c % 5, c + 3)", x.cast(1 + c % 5, c + 3), c);
        }
        due.be("cast(1, 1) of 10", x.cast(1, 1), FULL);
        due.be("cast(1, -1) of 10: FULL ahead of SIZE", x.cast(1, -1), FULL);
        due.be("cast(1, 13) of 10", x.cast(1, 13), BAD);
        due.be("count(4)", x.count(4), 10);
        due.be("findings(SIZE)", x.findings(SIZE), 1);
    }

    private static void roles() {
        TalePlay x = twelve();
        String[] fit = {"", "12345", "2", "3", "4", "5"};
        for (int sort = 1; sort <= 5; sort++) {
            int cast = x.cast(sort, 12);
            for (int o = 0; o < 6; o++) {
                String call = "role(" + cast + ", 11, " + o + ")";
                if (o == 0) {
                    due.find(call, x, x.role(cast, 11, o), UNLIKE);
                } else if (fit[sort].indexOf('0' + o) >= 0) {
                    due.be(call, x.role(cast, 11, o), 1);
                    due.be("who of " + call, x.who(cast, 11), o);
                } else {
                    due.find(call, x, x.role(cast, 11, o), MISFIT);
                }
            }
        }
        due.be("role(5, 0, 1)", x.role(5, 0, 1), BAD);
        due.be("role(-1, 0, 1)", x.role(-1, 0, 1), BAD);
        due.be("role(0, 0, 12)", x.role(0, 0, 12), BAD);
        due.be("role(0, 0, -1)", x.role(0, 0, -1), BAD);
        due.be("role(0, 12, 12): BAD ahead of BEYOND", x.role(0, 12, 12), BAD);
        due.find("role(0, 12, 0): UNLIKE ahead of BEYOND", x, x.role(0, 12, 0), UNLIKE);
        due.find("role(1, 12, 1): BEYOND ahead of MISFIT", x, x.role(1, 12, 1), BEYOND);
        due.find("role(0, -1, 1)", x, x.role(0, -1, 1), BEYOND);
        due.find("role(0, 12, NONE)", x, x.role(0, 12, NONE), BEYOND);
        due.be("role(1, 11, NONE)", x.role(1, 11, NONE), 1);
        due.find("who(1, 11)", x, x.who(1, 11), NOTHING);
        due.be("role(1, 11, NONE) again", x.role(1, 11, NONE), 1);
        int gate = x.kind(2);
        int portal = x.make(gate, 1);
        due.be("role of a further kind", x.role(1, 3, portal), 1);
        due.be("role of the same again", x.role(1, 4, portal), 1);
        due.be("who(1, 3)", x.who(1, 3), portal);
        due.find("role(2, 0, portal)", x, x.role(2, 0, portal), MISFIT);
    }

    private static void whose() {
        TalePlay x = twelve();
        due.be("who(0, 0) of none", x.who(0, 0), BAD);
        x.cast(3, 2);
        x.cast(1, 0);
        due.be("who(-1, 0)", x.who(-1, 0), BAD);
        due.be("who(2, 0)", x.who(2, 0), BAD);
        due.find("who(0, 0)", x, x.who(0, 0), NOTHING);
        due.find("who(0, 1)", x, x.who(0, 1), NOTHING);
        due.find("who(0, 2)", x, x.who(0, 2), BEYOND);
        due.find("who(0, -1)", x, x.who(0, -1), BEYOND);
        due.find("who(1, 0)", x, x.who(1, 0), BEYOND);
        due.be("role(0, 1, 9)", x.role(0, 1, 9), 1);
        due.be("who(0, 1)", x.who(0, 1), 9);
        due.find("role(0, 1, 4)", x, x.role(0, 1, 4), MISFIT);
        due.be("who(0, 1) stays", x.who(0, 1), 9);
        due.find("who(0, 0) still", x, x.who(0, 0), NOTHING);
    }
}
