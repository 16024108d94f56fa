import java.math.BigInteger;

/** Promises 28 to 38 at their edges, sentence by sentence. */
public final class LineEdgesTest {
    private static final int BAD = TalePlay.BAD, FINDING = TalePlay.FINDING, NONE = TalePlay.NONE;
    private static final int BYTES = Worlds.BYTES, INTS = Worlds.INTS, FLOATS = Worlds.FLOATS, LONGS = Worlds.LONGS;
    private static final long NO_NUMBER = 2143289344L;
    private static final Due due = new Due("LineEdgesTest");

    public static void main(String[] args) {
        emptyLines();
        linesAnew();
        linesOfAll();
        cutBytes();
        cutInts();
        cutFloats();
        uncutLongs();
        noLine();
        anotherSort();
        asIfTakenAhead();
        allOrNone();
        copyOfNone();
        emptyCasts();
        sortsOfRoles();
        emptiedRoles();
        counts();
        countsOfTales();
        latestFinding();
        howOften();
        digestWraps();
        digestOfFullWorld();
        digestOfUnsaid();
        due.done();
    }

    private static void item(TalePlay x, int object, int sort, int i, long v) {
        due.be("item(" + object + ", " + sort + ", " + i + ")", x.item(object, sort, i), 1);
        due.be("asked() of it", x.asked(), v);
    }

    private static void emptyLines() {
        due.sentence(28, "An OBJECT gets a LINE of a sort (0 .. 3) with n ITEMS: n");
        for (int sort = BYTES; sort <= LONGS; sort++) {
            TalePlay x = Worlds.twelve();
            due.be("line(0, sort, 0)", x.line(0, sort, 0), 0);
            due.find("item(0, sort, 0): no item, but a line", x, x.item(0, sort, 0), Worlds.BEYOND);
            due.find("put(0, sort, 0, 1)", x, x.put(0, sort, 0, 1), Worlds.BEYOND);
            due.find("item(1, sort, 0): no line", x, x.item(1, sort, 0), Worlds.NOTHING);
        }
        due.sentence(28, "SIZE: n below 0");
        TalePlay x = Worlds.twelve();
        due.find("line(0, 0, -1)", x, x.line(0, 0, -1), Worlds.SIZE);
        due.find("line(0, 0, MIN)", x, x.line(0, 0, Integer.MIN_VALUE), Worlds.SIZE);
        due.find("item(0, 0, 0): there is no line", x, x.item(0, 0, 0), Worlds.NOTHING);
    }

    private static void linesAnew() {
        due.sentence(0, "all 0 at first");
        TalePlay x = Worlds.twelve();
        for (int time = 0; time < 8; time++) {
            int sort = time % 4;
            int n = 12 - time;
            due.be("line(0, sort, n)", x.line(0, sort, n), n);
            for (int i = 0; i < n; i++) {
                item(x, 0, sort, i, 0);
                due.be("put", x.put(0, sort, i, 65 + i), 1);
            }
        }
        x.line(0, INTS, 12);
        for (int i = 0; i < 12; i++) {
            item(x, 0, INTS, i, 0);
        }
    }

    private static void linesOfAll() {
        due.sentence(0, "An OBJECT may have a LINE");
        TalePlay x = Worlds.twelve();
        for (int o = 0; o < 12; o++) {
            due.be("line(o, o % 4, 12)", x.line(o, o % 4, 12), 12);
            x.put(o, o % 4, 0, o + 1);
            x.put(o, o % 4, 11, -o - 1);
        }
        for (int o = 0; o < 12; o++) {
            item(x, o, o % 4, 0, o + 1);
            if (o % 4 != FLOATS) {
                item(x, o, o % 4, 11, -o - 1);
            }
            item(x, o, o % 4, 1, 0);
            item(x, o, o % 4, 10, 0);
        }
        due.be("no tale ends by a line", x.count(6), NONE);
    }

    private static void cut(int sort, long[][] pairs) {
        TalePlay x = Worlds.twelve();
        x.line(0, sort, 3);
        x.line(1, sort, 1);
        for (long[] pair : pairs) {
            due.be("put(0, " + sort + ", 1, " + pair[0] + ")", x.put(0, sort, 1, pair[0]), 1);
            item(x, 0, sort, 1, pair[1]);
            x.copy(0, sort, 1, 1, 0, 1);
            item(x, 1, sort, 0, pair[1]);
        }
        item(x, 0, sort, 0, 0);
        item(x, 0, sort, 2, 0);
    }

    private static void cutBytes() {
        due.sentence(29, "ITEM i of a LINE is v, cut to its sort");
        cut(BYTES, new long[][] {{0, 0}, {127, 127}, {128, -128}, {129, -127}, {255, -1}, {256, 0}, {257, 1}, {-1, -1},
            {-128, -128}, {-129, 127}, {-256, 0}, {Integer.MAX_VALUE, -1}, {Integer.MIN_VALUE, 0}, {Long.MAX_VALUE, -1},
            {Long.MIN_VALUE, 0}, {0x7fL << 56 | 0x80, -128}});
    }

    private static void cutInts() {
        due.sentence(29, "ITEM i of a LINE is v, cut to its sort");
        cut(INTS, new long[][] {{0, 0}, {Integer.MAX_VALUE, Integer.MAX_VALUE}, {1L << 31, Integer.MIN_VALUE},
            {Integer.MIN_VALUE, Integer.MIN_VALUE}, {-1L - (1L << 31), Integer.MAX_VALUE}, {1L << 32, 0},
            {(1L << 32) - 1, -1}, {(1L << 32) + 1, 1}, {-(1L << 32), 0}, {Long.MAX_VALUE, -1}, {Long.MIN_VALUE, 0}});
    }

    private static void cutFloats() {
        due.sentence(29, "of floats by the lowest 32 bits");
        due.sentence(0, "of floats its 32 bits, as an int (any that is no number: 2143289344)");
        cut(FLOATS, new long[][] {{0, 0}, {1, 1}, {0x007fffff, 0x007fffff}, {0x00800000, 0x00800000},
            {0x3f800000, 0x3f800000}, {0x7f7fffff, 0x7f7fffff}, {0x7f800000, 0x7f800000}, {0x7f800001, NO_NUMBER},
            {0x7fbfffff, NO_NUMBER}, {0x7fc00000, NO_NUMBER}, {0x7fc00001, NO_NUMBER}, {0x7fffffff, NO_NUMBER},
            {0x80000000L, Integer.MIN_VALUE}, {Integer.MIN_VALUE, Integer.MIN_VALUE}, {0x80000001L, -2147483647},
            {0xbf800000L, (int) 0xbf800000L}, {0xff7fffffL, (int) 0xff7fffffL}, {0xff800000L, (int) 0xff800000L},
            {0xff800001L, NO_NUMBER}, {0xffc00000L, NO_NUMBER}, {0xffffffffL, NO_NUMBER}, {-1, NO_NUMBER},
            {1L << 32, 0}, {(1L << 32) + 0x3f800000, 0x3f800000}, {Long.MAX_VALUE, NO_NUMBER}, {Long.MIN_VALUE, 0},
            {NO_NUMBER, NO_NUMBER}});
    }

    private static void uncutLongs() {
        due.sentence(0, "An ITEM is told as a long");
        cut(LONGS, new long[][] {{0, 0}, {Long.MAX_VALUE, Long.MAX_VALUE}, {Long.MIN_VALUE, Long.MIN_VALUE}, {-1, -1},
            {1L << 32, 1L << 32}, {NO_NUMBER + 1, NO_NUMBER + 1}, {0x7fffffff, 0x7fffffff}});
    }

    private static void noLine() {
        due.sentence(29, "NOTHING: no LINE");
        TalePlay x = Worlds.twelve();
        for (int sort = BYTES; sort <= LONGS; sort++) {
            due.find("put(5, sort, 0, 0)", x, x.put(5, sort, 0, 0), Worlds.NOTHING);
            due.find("item(5, sort, 0)", x, x.item(5, sort, 0), Worlds.NOTHING);
            due.find("copy(5, sort, 0, 5, 0, 0)", x, x.copy(5, sort, 0, 5, 0, 0), Worlds.NOTHING);
        }
        due.be("findings(NOTHING)", x.findings(Worlds.NOTHING), 12);
    }

    private static void anotherSort() {
        due.sentence(29, "UNLIKE: it is of another sort");
        for (int sort = BYTES; sort <= LONGS; sort++) {
            TalePlay x = Worlds.twelve();
            x.line(0, sort, 2);
            x.put(0, sort, 0, 9);
            for (int other = BYTES; other <= LONGS; other++) {
                int answer = other == sort ? 1 : FINDING;
                due.be("item(0, other, 0)", x.item(0, other, 0), answer);
                due.be("put(0, other, 0, 9)", x.put(0, other, 0, 9), answer);
                due.be("copy(0, other, 0, 0, 1, 1)", x.copy(0, other, 0, 0, 1, 1), answer);
            }
            due.be("findings(UNLIKE)", x.findings(Worlds.UNLIKE), 9);
            item(x, 0, sort, 0, 9);
            item(x, 0, sort, 1, 9);
        }
    }

    private static TalePlay counted() {
        TalePlay x = Worlds.twelve();
        x.line(0, INTS, 12);
        for (int i = 0; i < 12; i++) {
            x.put(0, INTS, i, i);
        }
        return x;
    }

    private static void asIfTakenAhead() {
        due.sentence(31, "as if taken ahead");
        for (int from = 0; from <= 12; from += 3) {
            for (int to = 0; to <= 12; to += 2) {
                TalePlay x = counted();
                int n = 12 - Math.max(from, to);
                due.be("copy(0, INTS, from, 0, to, n)", x.copy(0, INTS, from, 0, to, n), 1);
                for (int i = 0; i < 12; i++) {
                    item(x, 0, INTS, i, i >= to && i < to + n ? i - to + from : i);
                }
            }
        }
    }

    private static void allOrNone() {
        due.sentence(31, "all or none");
        TalePlay x = counted();
        x.line(1, INTS, 4);
        int[][] beyond = {{0, 0, 5}, {0, 1, 4}, {0, 4, 1}, {9, 0, 4}, {12, 0, 1}, {0, 0, -1}, {-1, 0, 2}, {0, -1, 2},
            {13, 0, 0}, {0, 5, 0}, {Integer.MAX_VALUE, 0, 1}, {0, Integer.MAX_VALUE, 1}, {1, 1, Integer.MAX_VALUE},
            {Integer.MIN_VALUE, 0, 1}, {0, Integer.MIN_VALUE, 1}, {0, 0, Integer.MIN_VALUE}};
        for (int[] b : beyond) {
            due.find("copy(0, INTS, " + b[0] + ", 1, " + b[1] + ", " + b[2] + ")", x,
                    x.copy(0, INTS, b[0], 1, b[1], b[2]), Worlds.BEYOND);
        }
        for (int i = 0; i < 4; i++) {
            item(x, 1, INTS, i, 0);
        }
        due.be("copy(0, INTS, 8, 1, 0, 4)", x.copy(0, INTS, 8, 1, 0, 4), 1);
        for (int i = 0; i < 4; i++) {
            item(x, 1, INTS, i, 8 + i);
        }
    }

    private static void copyOfNone() {
        due.sentence(31, "BEYOND: not so many from there on (a place, n below 0 too)");
        TalePlay x = counted();
        x.line(1, INTS, 0);
        due.be("no items to an empty line", x.copy(0, INTS, 5, 1, 0, 0), 1);
        due.be("no items from an empty line", x.copy(1, INTS, 0, 0, 5, 0), 1);
        due.be("no items from just behind the last one", x.copy(0, INTS, 12, 1, 0, 0), 1);
        due.find("no items from beyond", x, x.copy(0, INTS, 13, 1, 0, 0), Worlds.BEYOND);
        due.find("no items to beyond", x, x.copy(0, INTS, 0, 1, 1, 0), Worlds.BEYOND);
        due.find("no items from below", x, x.copy(0, INTS, -1, 1, 0, 0), Worlds.BEYOND);
        due.find("one item to an empty line", x, x.copy(0, INTS, 0, 1, 0, 1), Worlds.BEYOND);
        item(x, 0, INTS, 5, 5);
    }

    private static void emptyCasts() {
        due.sentence(32, "A CAST with n ROLES of a sort (1 .. 5): its number");
        TalePlay x = Worlds.twelve();
        due.be("cast(5, 0)", x.cast(5, 0), 0);
        due.be("cast(1, 12)", x.cast(1, 12), 1);
        due.find("who(0, 0)", x, x.who(0, 0), Worlds.BEYOND);
        due.find("role(0, 0, 5)", x, x.role(0, 0, 5), Worlds.BEYOND);
        due.find("role(0, 0, NONE)", x, x.role(0, 0, NONE), Worlds.BEYOND);
        due.sentence(32, "SIZE");
        due.find("cast(1, -1)", x, x.cast(1, -1), Worlds.SIZE);
        due.find("cast(1, MIN)", x, x.cast(1, Integer.MIN_VALUE), Worlds.SIZE);
        due.be("count(4)", x.count(4), 2);
        due.be("cast(2, 1)", x.cast(2, 1), 2);
    }

    private static void sortsOfRoles() {
        due.sentence(0, "for THINGS that are of a sort (1 THING, 2 DOOR, 3 BOX, 4 STAND, 5 PERSON: what their KIND IS)");
        TalePlay x = new TalePlay();
        for (int k = 0; k < 6; k++) {
            x.make(k, 0);
        }
        for (int k = 0; k < 6; k++) {
            x.make(x.kind(x.kind(k)), 0);
        }
        for (int sort = 1; sort <= 5; sort++) {
            int cast = x.cast(sort, 1);
            for (int o = 0; o < 12; o++) {
                String call = "role(" + cast + ", 0, " + o + ")";
                if (o % 6 == 0) {
                    due.find(call, x, x.role(cast, 0, o), Worlds.UNLIKE);
                } else if (sort == 1 || o % 6 == sort) {
                    due.be(call, x.role(cast, 0, o), 1);
                    due.be("who of " + call, x.who(cast, 0), o);
                } else {
                    due.find(call, x, x.role(cast, 0, o), Worlds.MISFIT);
                }
            }
        }
    }

    private static void emptiedRoles() {
        due.sentence(33, "NONE: it is empty");
        TalePlay x = Worlds.twelve();
        x.cast(1, 3);
        x.cast(1, 3);
        due.sentence(34, "NOTHING: it is empty");
        due.find("who(0, 1)", x, x.who(0, 1), Worlds.NOTHING);
        due.be("role(0, 1, 1)", x.role(0, 1, 1), 1);
        due.be("role(0, 2, 1): twice", x.role(0, 2, 1), 1);
        due.be("role(0, 1, NONE)", x.role(0, 1, NONE), 1);
        due.be("role(0, 1, NONE) again", x.role(0, 1, NONE), 1);
        due.find("who(0, 1)", x, x.who(0, 1), Worlds.NOTHING);
        due.be("who(0, 2)", x.who(0, 2), 1);
        due.find("who(1, 2)", x, x.who(1, 2), Worlds.NOTHING);
        due.be("role(0, 2, 7): in its place", x.role(0, 2, 7), 1);
        due.be("who(0, 2)", x.who(0, 2), 7);
    }

    private static void counts() {
        due.sentence(35, "0 KINDS, 1 OBJECTS, 2 SENTENCES that are said, 3 all that were, 4 CASTS");
        TalePlay x = Worlds.twelve();
        x.kind(1);
        Worlds.say(x, 0, 1, 0, 0);
        Worlds.say(x, 0, 5, 0, 0);
        x.unsay(0);
        x.cast(1, 0);
        int[] want = {7, 12, 1, 2, 1, 0, NONE, NONE};
        for (int what = 0; what < want.length; what++) {
            due.be("count(" + what + ")", x.count(what), want[what]);
        }
        due.be("count(8)", x.count(8), BAD);
        due.be("count(-1)", x.count(-1), BAD);
        due.be("count(NONE)", x.count(NONE), BAD);
    }

    private static void countsOfTales() {
        due.sentence(35, "5 TURNS (0 without a TALE), 6 THE PLAYER (NONE without a TALE), 7 ACTS of the PLAY");
        TalePlay x = new TalePlay();
        int man = x.make(5, 0);
        int room = x.make(0, 0);
        Worlds.say(x, 0, man, room, 0);
        due.be("count(6)", x.count(6), NONE);
        x.begin(man);
        due.be("count(6): number 0", x.count(6), 0);
        due.be("count(5)", x.count(5), 0);
        x.act(12, 0, 0);
        due.be("count(5)", x.count(5), 1);
        due.be("count(7): there was none", x.count(7), NONE);
        x.seek(man, room, 0);
        due.be("count(7): without acts", x.count(7), 0);
        x.seek(room, man, 0);
        due.be("count(7): it found none", x.count(7), NONE);
        x.standard(0, 0, 0);
        due.be("count(5) without a tale", x.count(5), 0);
        due.be("count(6) without a tale", x.count(6), NONE);
    }

    private static void latestFinding() {
        due.sentence(36, "The latest FINDING (0 before any)");
        TalePlay x = Worlds.twelve();
        due.be("finding()", x.finding(), 0);
        due.be("bulk(12)", x.bulk(12), BAD);
        due.be("finding() behind BAD", x.finding(), 0);
        due.be("light()", x.light(), TalePlay.STATE);
        due.be("finding() behind STATE", x.finding(), 0);
        x.cast(2, 1);
        int[] order = {6, 5, 4, 3, 2, 1, 3};
        for (int f : order) {
            due.be("the finding " + f, found(x, f), FINDING);
            due.be("finding()", x.finding(), f);
            due.be("bulk(1)", x.bulk(1), 1);
            due.be("bulk(12)", x.bulk(12), BAD);
            due.be("finding() stays", x.finding(), f);
        }
    }

    private static int found(TalePlay x, int finding) {
        return switch (finding) {
            case Worlds.NOTHING -> x.who(0, 0);
            case Worlds.BEYOND -> x.who(0, 1);
            case Worlds.UNLIKE -> x.key(0);
            case Worlds.NOUGHT -> x.share(1, 0);
            case Worlds.SIZE -> x.cast(1, -1);
            default -> x.role(0, 0, 1);
        };
    }

    private static void howOften() {
        due.sentence(37, "How often a FINDING (1 .. 6) was answered");
        TalePlay x = Worlds.twelve();
        x.cast(2, 1);
        int[] times = {0, 3, 0, 40, 1, 7, 2};
        for (int f = 1; f <= 6; f++) {
            due.be("findings(f) at first", x.findings(f), 0);
            for (int i = 0; i < times[f]; i++) {
                found(x, f);
            }
        }
        for (int f = 1; f <= 6; f++) {
            due.be("findings(" + f + ")", x.findings(f), times[f]);
        }
        due.be("findings(0)", x.findings(0), BAD);
        due.be("findings(7)", x.findings(7), BAD);
    }

    /** The digest as the document tells it, reckoned without bounds and wrapped around at the end. */
    private static final class Digest {
        private BigInteger h = BigInteger.valueOf(17);

        void add(long... values) {
            for (long v : values) {
                h = h.multiply(BigInteger.valueOf(31)).add(BigInteger.valueOf(v));
            }
        }
    }

    private static void addFirstKinds(Digest d) {
        for (int k = 0; k < 6; k++) {
            d.add(k < 2 ? NONE : 1, NONE, NONE, NONE, NONE, NONE, NONE);
        }
    }

    private static void digestWraps() {
        due.sentence(38, "h = 17; then h = 31 h + v for each v");
        Digest d = new Digest();
        addFirstKinds(d);
        due.be("digest() of a new object", new TalePlay().digest(), d.h.longValue());
        TalePlay x = Worlds.twelve();
        for (int o = 0; o < 12; o++) {
            d.add(o % 6, o, NONE, NONE);
        }
        due.be("digest() of twelve", x.digest(), d.h.longValue());
        x.line(0, 0, 12);
        x.cast(1, 12);
        x.bulk(0);
        x.say(9, 9, 9, 9);
        due.be("digest() of lines, casts, findings", x.digest(), d.h.longValue());
    }

    private static void digestOfFullWorld() {
        due.sentence(38, "of each KIND .. of each OBJECT .. and, in a TALE, now() 0 to 5; of each SENTENCE");
        TalePlay x = new TalePlay();
        Digest kinds = new Digest();
        addFirstKinds(kinds);
        for (int k = 6; k < 24; k++) {
            x.kind(k - 6);
            x.standard(k, k % 6, k % 2);
            kinds.add(k - 6);
            for (int f = 0; f < 6; f++) {
                kinds.add(f == k % 6 ? k % 2 : NONE);
            }
        }
        x.make(0, 99);
        x.make(5, 98);
        for (int o = 2; o < 30; o++) {
            x.make(1, o);
        }
        Digest said = new Digest();
        said.h = BigInteger.ZERO;
        for (int o = 1; o < 30; o++) {
            Worlds.say(x, 0, o, 0, 0);
            said.add(0, o, 0, 0, 1);
        }
        for (int s = 29; s < 200; s++) {
            Worlds.say(x, 6, 0, 2, 1);
            x.unsay(s);
            said.add(6, 0, 2, 1, 0);
        }
        BigInteger shift = BigInteger.valueOf(31).pow(5 * 200);
        Digest still = new Digest();
        still.h = kinds.h;
        still.add(0, 99, NONE, NONE, 5, 98, 0, 0);
        Digest tale = new Digest();
        tale.h = kinds.h;
        tale.add(0, 99, NONE, NONE, NONE, NONE, NONE, NONE, 0, 0);
        tale.add(5, 98, 0, 0, 0, 0, NONE, NONE, 1, 1);
        for (int o = 2; o < 30; o++) {
            still.add(1, o, 0, 0);
            tale.add(1, o, 0, 0, o == 29 ? 2 : 0, o == 29 ? 1 : 0, NONE, NONE, 1, 1);
        }
        due.be("digest() without a tale", x.digest(), still.h.multiply(shift).add(said.h).longValue());
        x.begin(1);
        due.be("act TAKE", x.act(1, 29, 0), 0);
        due.be("digest() in a tale", x.digest(), tale.h.multiply(shift).add(said.h).longValue());
    }

    private static void digestOfUnsaid() {
        due.sentence(38, "of each SENTENCE sentence() 0 to 4");
        TalePlay x = new TalePlay();
        x.make(0, 0);
        Digest d = new Digest();
        addFirstKinds(d);
        d.add(0, 0, NONE, NONE);
        due.be("digest() without sentences", x.digest(), d.h.longValue());
        Worlds.say(x, 5, 0, 0, 9);
        x.unsay(0);
        d.add(5, 0, 0, 9, 0);
        due.be("digest() with one unsaid", x.digest(), d.h.longValue());
    }
}
