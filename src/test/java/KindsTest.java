/** Promises 1 to 9: kinds, objects, bulks. */
public final class KindsTest {
    private static final int BAD = TalePlay.BAD, FULL = TalePlay.FULL, NONE = TalePlay.NONE;
    private static final int NOUGHT = 4, UNLIKE = 3;
    private static final Due due = new Due("KindsTest");

    public static void main(String[] args) {
        newObject();
        kinds();
        standards();
        objects();
        sorts();
        bulks();
        bulksInTales();
        firstObject();
        traceOfNested();
        shares();
        due.done();
    }

    private static void newObject() {
        TalePlay x = new TalePlay();
        int[] counts = {6, 0, 0, 0, 0, 0, NONE, NONE};
        for (int what = 0; what < counts.length; what++) {
            due.be("count(" + what + ") of a new object", x.count(what), counts[what]);
        }
        due.be("finding()", x.finding(), 0);
        due.be("asked()", x.asked(), 0);
        due.be("trace(0)", x.trace(0), NONE);
        due.be("clash(0)", x.clash(0), NONE);
        long h = 17;
        int[] parents = {NONE, NONE, 1, 1, 1, 1};
        for (int parent : parents) {
            h = 31 * h + parent;
            for (int f = 0; f < 6; f++) {
                h = 31 * h + NONE;
            }
        }
        due.be("digest() of a new object", x.digest(), h);
    }

    private static void kinds() {
        TalePlay x = new TalePlay();
        due.be("kind(-1)", x.kind(-1), BAD);
        due.be("kind(6)", x.kind(6), BAD);
        for (int k = 6; k < 24; k++) {
            due.be("kind(k - 1)", x.kind(k - 1), k);
        }
        due.be("kind(0) of 24", x.kind(0), FULL);
        due.be("kind(24) of 24", x.kind(24), BAD);
        due.be("kind(-9) of 24", x.kind(NONE), BAD);
        due.be("count(0)", x.count(0), 24);
        due.be("make(23, 1)", x.make(23, 1), 0);
        due.be("is(0, 23)", x.is(0, 23), 1);
        due.be("is(0, 6)", x.is(0, 6), 1);
        due.be("is(0, 5)", x.is(0, 5), 1);
        due.be("is(0, 1)", x.is(0, 1), 1);
        due.be("is(0, 0)", x.is(0, 0), 0);
        due.be("is(0, 3)", x.is(0, 3), 0);
    }

    private static void standards() {
        TalePlay x = new TalePlay();
        int lower = x.kind(3);
        int lowest = x.kind(lower);
        due.be("standard(24, 0, 1)", x.standard(24, 0, 1), BAD);
        due.be("standard(-1, 0, 1)", x.standard(-1, 0, 1), BAD);
        due.be("standard(8, 0, 1)", x.standard(8, 0, 1), BAD);
        due.be("standard(3, 6, 1)", x.standard(3, 6, 1), BAD);
        due.be("standard(3, -1, 1)", x.standard(3, -1, 1), BAD);
        due.be("standard(3, 0, 2)", x.standard(3, 0, 2), BAD);
        due.be("standard(3, 0, -1)", x.standard(3, 0, -1), BAD);
        int box = x.make(lowest, 1);
        int room = x.make(0, 1);
        int door = x.make(2, 1);
        due.be("flag(box, OPEN)", x.flag(box, 0), 0);
        due.be("standard(1, OPEN, 1)", x.standard(1, 0, 1), NONE);
        due.be("flag(box, OPEN) by THING", x.flag(box, 0), 1);
        due.be("flag(door, OPEN) by THING", x.flag(door, 0), 1);
        due.be("standard(3, OPEN, 0)", x.standard(3, 0, 0), NONE);
        due.be("flag(box, OPEN) by BOX", x.flag(box, 0), 0);
        due.be("flag(door, OPEN) by THING still", x.flag(door, 0), 1);
        due.be("standard(lower, OPEN, 1)", x.standard(lower, 0, 1), NONE);
        due.be("flag(box, OPEN) by lower", x.flag(box, 0), 1);
        due.be("standard(lower, OPEN, 0)", x.standard(lower, 0, 0), 1);
        due.be("standard(lower, OPEN, 0) again", x.standard(lower, 0, 0), 0);
        due.be("standard(lower, OPEN, NONE)", x.standard(lower, 0, NONE), 0);
        due.be("standard(lower, OPEN, NONE) again", x.standard(lower, 0, NONE), NONE);
        due.be("standard(3, OPEN, NONE)", x.standard(3, 0, NONE), 0);
        due.be("flag(box, OPEN) by THING again", x.flag(box, 0), 1);
        due.be("flag(room, LIT)", x.flag(room, 2), 1);
        due.be("standard(0, LIT, 0)", x.standard(0, 2, 0), NONE);
        due.be("flag(room, LIT) by ROOM", x.flag(room, 2), 0);
        due.be("standard(0, GLASS, 1), a flag that rooms can't have", x.standard(0, 5, 1), NONE);
        due.be("standard(0, GLASS, NONE)", x.standard(0, 5, NONE), 1);
        due.be("say(6, box, OPEN, 0)", x.say(6, box, 0, 0), 0);
        due.be("flag(box, OPEN) as said", x.flag(box, 0), 0);
    }

    private static void objects() {
        TalePlay x = new TalePlay();
        due.be("make(6, 0)", x.make(6, 0), BAD);
        due.be("make(-1, 0)", x.make(-1, 0), BAD);
        due.be("make(1, -1)", x.make(1, -1), BAD);
        due.be("make(1, 100)", x.make(1, 100), BAD);
        due.be("make(1, 99)", x.make(1, 99), 0);
        for (int o = 1; o < 30; o++) {
            due.be("make(o % 6, o)", x.make(o % 6, o), o);
        }
        due.be("make(0, 0) of 30", x.make(0, 0), FULL);
        due.be("make(6, 0) of 30", x.make(6, 0), BAD);
        due.be("make(0, 100) of 30", x.make(0, 100), BAD);
        due.be("count(1)", x.count(1), 30);
        due.be("is(29, 5)", x.is(29, 5), 1);
        due.be("is(30, 5)", x.is(30, 5), BAD);
        due.be("is(-1, 5)", x.is(-1, 5), BAD);
        due.be("is(29, 6)", x.is(29, 6), BAD);
        due.be("is(29, -1)", x.is(29, -1), BAD);
    }

    private static void sorts() {
        TalePlay x = new TalePlay();
        int[][] is = {{1, 0, 0, 0, 0, 0}, {0, 1, 0, 0, 0, 0}, {0, 1, 1, 0, 0, 0},
            {0, 1, 0, 1, 0, 0}, {0, 1, 0, 0, 1, 0}, {0, 1, 0, 0, 0, 1}};
        for (int k = 0; k < 6; k++) {
            x.make(k, 0);
            for (int other = 0; other < 6; other++) {
                due.be("is(" + k + ", " + other + ")", x.is(k, other), is[k][other]);
            }
        }
        due.be("kind(0)", x.kind(0), 6);
        due.be("kind(1)", x.kind(1), 7);
        due.be("make(6, 0)", x.make(6, 0), 6);
        due.be("make(7, 0)", x.make(7, 0), 7);
        due.be("is(6, 0)", x.is(6, 0), 1);
        due.be("is(6, 1)", x.is(6, 1), 0);
        due.be("is(7, 1)", x.is(7, 1), 1);
        due.be("is(7, 6)", x.is(7, 6), 0);
        due.be("is(1, 7)", x.is(1, 7), 0);
    }

    private static void bulkIs(TalePlay x, int object, long bulk, int... trace) {
        due.be("bulk(" + object + ")", x.bulk(object), 1);
        due.be("asked() of bulk(" + object + ")", x.asked(), bulk);
        for (int i = 0; i < trace.length; i++) {
            due.be("trace(" + i + ") of bulk(" + object + ")", x.trace(i), trace[i]);
        }
        due.be("the end of trace of bulk(" + object + ")", x.trace(trace.length), NONE);
        due.be("trace(-1)", x.trace(-1), NONE);
    }

    private static void bulks() {
        TalePlay x = new TalePlay();
        for (int k = 0; k < 6; k++) {
            x.make(k, 7);
        }
        bulkIs(x, 1, 7, 1);
        bulkIs(x, 2, 14, 4, 1);
        bulkIs(x, 3, 7, 2, 1);
        bulkIs(x, 4, 7, 3, 1);
        bulkIs(x, 5, 14, 5, 1);
        due.be("bulk(6)", x.bulk(6), BAD);
        due.be("bulk(-1)", x.bulk(-1), BAD);
        due.be("trace(0) stays by BAD", x.trace(0), 5);
        due.find("bulk(0)", x, x.bulk(0), UNLIKE);
        due.be("trace(0) of a room", x.trace(0), NONE);
        due.be("asked() stays", x.asked(), 14);
        int slight = x.make(2, 0);
        due.find("bulk(slight)", x, x.bulk(slight), NOUGHT);
        due.be("trace(0) of NOUGHT", x.trace(0), 4);
        due.be("trace(1) of NOUGHT", x.trace(1), 1);
        due.be("trace(2) of NOUGHT", x.trace(2), NONE);
        due.be("asked() stays by NOUGHT", x.asked(), 14);
        int feather = x.make(1, 0);
        bulkIs(x, feather, 0, 1);
        int wide = x.make(2, 99);
        bulkIs(x, wide, 1, 4, 1);
        x.say(1, 1, 4, 0);
        x.say(0, 4, 3, 0);
        x.say(0, 5, 3, 0);
        bulkIs(x, 3, 35, 2, 1, 3, 1, 1, 5, 1);
        bulkIs(x, 4, 14, 3, 1, 1);
        x.unsay(0);
        x.say(2, 1, 5, 0);
        bulkIs(x, 5, 14, 5, 1);
        bulkIs(x, 3, 28, 2, 1, 3, 1, 5, 1);
        x.unsay(3);
        x.say(4, 1, 3, 0);
        bulkIs(x, 3, 28, 2, 1, 3, 1, 5, 1);
    }

    private static void bulksInTales() {
        TalePlay x = new TalePlay();
        int room = x.make(0, 0);
        int man = x.make(5, 10);
        int box = x.make(3, 4);
        int nut = x.make(1, 3);
        x.say(0, man, room, 0);
        x.say(0, box, room, 0);
        x.say(0, nut, box, 0);
        x.say(6, box, 0, 1);
        bulkIs(x, box, 7, 2, 1, 1);
        x.begin(man);
        due.be("act TAKE nut", x.act(1, nut, 0), 0);
        due.be("trace(2) stays", x.trace(2), 1);
        bulkIs(x, box, 4, 2, 1);
        x.say(6, box, 0, 1);
        bulkIs(x, box, 4, 2, 1);
        x.say(6, box, 5, 1);
        bulkIs(x, box, 7, 2, 1, 1);
    }

    /** Number 0 may be any sort of object. */
    private static void firstObject() {
        TalePlay x = new TalePlay();
        int nut = x.make(1, 3);
        int box = x.make(3, 2);
        x.say(0, nut, box, 0);
        bulkIs(x, box, 5, 2, 1, 1);
        shareIs(x, box, box, 1666);
        x.unsay(0);
        due.find("share(box, box) of none", x, x.share(box, box), NOUGHT);
    }

    private static void traceOfNested() {
        TalePlay x = new TalePlay();
        for (int o = 0; o < 30; o++) {
            x.make(o % 2 == 0 ? 3 : 4, 99);
        }
        for (int o = 0; o < 29; o++) {
            due.be("say nested", x.say(o % 2 == 0 ? 1 : 0, o, o + 1, 0), o);
        }
        due.be("bulk(29)", x.bulk(29), 1);
        due.be("asked() of 30", x.asked(), 2970);
        for (int i = 0; i < 60; i += 2) {
            due.be("trace of 30", x.trace(i), i % 4 == 0 ? 3 : 2);
            due.be("trace of 30, behind", x.trace(i + 1), 1);
        }
        due.be("trace(60)", x.trace(60), NONE);
    }

    private static void shareIs(TalePlay x, int object, int holder, long share) {
        due.be("share(" + object + ", " + holder + ")", x.share(object, holder), 1);
        due.be("asked() of share(" + object + ", " + holder + ")", x.asked(), share);
    }

    private static void shares() {
        TalePlay x = new TalePlay();
        int room = x.make(0, 0);
        int man = x.make(5, 10);
        int hat = x.make(1, 3);
        int cup = x.make(1, 4);
        int arm = x.make(1, 0);
        int box = x.make(3, 5);
        int gate = x.make(2, 0);
        int door = x.make(2, 9);
        int knob = x.make(1, 7);
        x.say(0, man, room, 0);
        x.say(3, hat, man, 0);
        x.say(2, cup, man, 0);
        x.say(4, arm, man, 0);
        x.say(0, box, room, 0);
        x.say(4, knob, door, 0);
        due.be("bulk(cup)", x.bulk(cup), 1);
        shareIs(x, hat, man, 428);
        shareIs(x, cup, man, 571);
        shareIs(x, man, man, 2857);
        shareIs(x, man, room, 800);
        shareIs(x, box, room, 200);
        shareIs(x, door, door, 1571);
        due.be("trace(0) stays", x.trace(0), 1);
        due.be("trace(1) stays", x.trace(1), NONE);
        shareIs(x, arm, man, 0);
        due.find("share(room, man)", x, x.share(room, man), UNLIKE);
        due.find("share(hat, box)", x, x.share(hat, box), NOUGHT);
        due.find("share(gate, man)", x, x.share(gate, man), NOUGHT);
        due.find("share(room, box)", x, x.share(room, box), UNLIKE);
        due.be("share(9, man)", x.share(9, man), BAD);
        due.be("share(hat, 9)", x.share(hat, 9), BAD);
        due.be("share(hat, -1)", x.share(hat, -1), BAD);
        due.be("share(room, -1)", x.share(room, -1), BAD);
        due.be("asked() stays", x.asked(), 0);
        x.unsay(1);
        x.unsay(2);
        due.find("share(hat, man): the arm has no bulk", x, x.share(hat, man), NOUGHT);
        x.say(2, hat, man, 0);
        x.say(2, cup, man, 0);
        x.begin(man);
        x.act(2, cup, 0);
        shareIs(x, hat, man, 1000);
        shareIs(x, cup, room, 137);
    }
}
