/** Promises 1 to 9 at their edges, sentence by sentence. */
public final class KindEdgesTest {
    private static final int BAD = TalePlay.BAD, STATE = TalePlay.STATE, NONE = TalePlay.NONE;
    private static final int OPEN = Worlds.OPEN, LOCKED = Worlds.LOCKED, LIT = Worlds.LIT, FIXED = Worlds.FIXED,
            GARMENT = Worlds.GARMENT, GLASS = Worlds.GLASS;
    private static final int IN = Worlds.IN, ON = Worlds.ON, HELD = Worlds.HELD, WORN = Worlds.WORN, PART = Worlds.PART;
    private static final int ROOM = 0, THING = 1, DOOR = 2, BOX = 3, STAND = 4, PERSON = 5;
    private static final Due due = new Due("KindEdgesTest");

    public static void main(String[] args) {
        newObject();
        beneathOneThatWasThere();
        aKindIs();
        sortsOfFurtherKinds();
        defaultsOfWhatCanNotBe();
        defaultsFromAbove();
        standardTellsWhatItWas();
        standardDoesSomething();
        makeEndsTales();
        bulkCountsInAndOnAlone();
        bulkByNumbers();
        bulkAsItStands();
        traceOfLatestBulk();
        askedOfLatest();
        shareOfWhom();
        shareIsCut();
        shareByNone();
        shareLeavesTrace();
        due.done();
    }

    private static void newObject() {
        due.sentence(1, "The six KINDS alone");
        TalePlay x = new TalePlay();
        int[] answers = {x.is(0, 0), x.bulk(0), x.share(0, 0), x.say(0, 0, 0, 0), x.unsay(0), x.sentence(0, 0),
            x.place(0, 0), x.exit(0, 0, 0), x.flag(0, 0), x.key(0), x.way(0, 0, true), x.toward(0, 0, true), x.begin(0),
            x.act(1, 0, 0), x.now(0, 0), x.seek(0, 0, 0), x.line(0, 0, 0), x.put(0, 0, 0, 0), x.item(0, 0, 0),
            x.copy(0, 0, 0, 0, 0, 0), x.role(0, 0, NONE), x.who(0, 0), x.kind(6), x.make(6, 0), x.standard(6, 0, 0)};
        for (int i = 0; i < answers.length; i++) {
            due.be("call " + i + " of a new object", answers[i], BAD);
        }
        int[] states = {x.act(0, 0, 0), x.act(11, 0, 0), x.act(12, 0, 0), x.back(), x.turn(0, 0), x.light()};
        for (int i = 0; i < states.length; i++) {
            due.be("call " + i + " without a tale", states[i], STATE);
        }
        int[] nones = {x.trace(0), x.clash(0), x.sought(0, 0), x.count(6), x.count(7)};
        for (int i = 0; i < nones.length; i++) {
            due.be("none " + i + " of a new object", nones[i], NONE);
        }
        int[] counts = {6, 0, 0, 0, 0, 0};
        for (int what = 0; what < counts.length; what++) {
            due.be("count(" + what + ")", x.count(what), counts[what]);
        }
        due.be("asked()", x.asked(), 0);
        due.be("finding()", x.finding(), 0);
        for (int k = 0; k < 6; k++) {
            for (int f = 0; f < 6; f++) {
                due.be("standard(" + k + ", " + f + ", NONE)", x.standard(k, f, NONE), NONE);
            }
        }
    }

    private static void beneathOneThatWasThere() {
        due.sentence(0, "each further one beneath one that was there");
        TalePlay x = new TalePlay();
        due.be("kind(6): itself", x.kind(6), BAD);
        due.be("kind(5)", x.kind(5), 6);
        due.be("kind(7): itself", x.kind(7), BAD);
        due.be("kind(6)", x.kind(6), 7);
        due.be("count(0)", x.count(0), 8);
    }

    private static void aKindIs() {
        due.sentence(0, "A KIND IS itself, and what the one IS beneath which it is");
        TalePlay x = new TalePlay();
        for (int k = 6; k < 24; k++) {
            x.kind(k == 6 ? THING : k - 1);
        }
        x.make(23, 0);
        x.make(6, 0);
        for (int k = 6; k < 24; k++) {
            due.be("is(0, " + k + ")", x.is(0, k), 1);
            due.be("is(1, " + k + ")", x.is(1, k), k == 6 ? 1 : 0);
        }
        int[] first = {0, 1, 0, 0, 0, 0};
        for (int k = 0; k < 6; k++) {
            due.be("is(0, " + k + ")", x.is(0, k), first[k]);
        }
    }

    /** Kinds beneath a kind are of its sort: which flags their objects can have tells it. */
    private static void sortsOfFurtherKinds() {
        due.sentence(0, "MOVABLES are THINGS but DOORS; GOODS are MOVABLES but PERSONS. SHUTTERS are DOORS and BOXES");
        String[] flags = {"2", "234", "012", "012345", "234", "23"};
        for (int k = 0; k < 6; k++) {
            TalePlay x = new TalePlay();
            int lower = x.kind(k);
            int lowest = x.kind(lower);
            x.make(lowest, 1);
            for (int f = 0; f < 6; f++) {
                String call = "flag " + f + " of one beneath " + k;
                if (flags[k].indexOf('0' + f) >= 0) {
                    due.be(call, x.flag(0, f), f == LIT && k == ROOM ? 1 : 0);
                } else {
                    due.find(call, x, x.flag(0, f), Worlds.UNLIKE);
                    due.find("say of " + call, x, x.say(Worlds.FLAG, 0, f, 0), Worlds.UNLIKE);
                }
            }
            due.be("key of one beneath " + k, x.key(0), k == DOOR || k == BOX ? NONE : TalePlay.FINDING);
        }
    }

    private static void defaultsOfWhatCanNotBe() {
        due.sentence(0, "A KIND may have a DEFAULT for a FLAG, also for one that its OBJECTS can't have");
        TalePlay x = Worlds.roomAndMan();
        int cup = Worlds.thing(x, THING, 1, IN, 0);
        int door = x.make(DOOR, 1);
        int box = Worlds.thing(x, BOX, 1, IN, 0);
        for (int f = 0; f < 6; f++) {
            due.be("standard(ROOM, f, 1)", x.standard(ROOM, f, 1), NONE);
            due.be("standard(THING, f, 1)", x.standard(THING, f, 1), NONE);
            due.be("standard(THING, f, 1) again", x.standard(THING, f, 1), 1);
        }
        due.find("flag(room, OPEN)", x, x.flag(0, OPEN), Worlds.UNLIKE);
        due.find("flag(cup, LOCKED)", x, x.flag(cup, LOCKED), Worlds.UNLIKE);
        due.find("flag(door, FIXED)", x, x.flag(door, FIXED), Worlds.UNLIKE);
        due.find("flag(man, GARMENT)", x, x.flag(1, GARMENT), Worlds.UNLIKE);
        due.find("flag(door, GLASS)", x, x.flag(door, GLASS), Worlds.UNLIKE);
        due.be("flag(door, OPEN) from THING", x.flag(door, OPEN), 1);
        due.be("flag(box, GLASS) from THING", x.flag(box, GLASS), 1);
        x.begin(1);
        due.be("now(room, 2)", x.now(0, 2), NONE);
        due.be("now(cup, 2)", x.now(cup, 2), NONE);
        due.be("now(cup, 3)", x.now(cup, 3), NONE);
        due.be("now(door, 2)", x.now(door, 2), 1);
        due.be("now(box, 3)", x.now(box, 3), 1);
    }

    private static void defaultsFromAbove() {
        due.sentence(0, "without one the DEFAULT of its KIND, or, without that, of the one beneath which that is, and so on");
        TalePlay x = new TalePlay();
        for (int k = 6; k < 24; k++) {
            x.kind(k == 6 ? ROOM : k - 1);
        }
        x.make(23, 0);
        due.sentence(0, "at last: LIT of ROOMS 1, all others 0");
        due.be("flag(0, LIT)", x.flag(0, LIT), 1);
        for (int k = 6; k < 24; k++) {
            x.standard(k, LIT, k % 2);
            due.be("flag(0, LIT) by " + k, x.flag(0, LIT), k % 2);
        }
        due.sentence(0, "What a FLAG of an OBJECT is SAID to be: what a SENTENCE says");
        due.be("say LIT as 0", x.say(Worlds.FLAG, 0, LIT, 0), 0);
        due.be("flag(0, LIT) as said", x.flag(0, LIT), 0);
        due.be("unsay(0)", x.unsay(0), 0);
        due.be("flag(0, LIT) by 23", x.flag(0, LIT), 1);
        due.sentence(3, "NONE: it has none");
        for (int k = 23; k >= 7; k--) {
            due.be("standard(k, LIT, NONE)", x.standard(k, LIT, NONE), k % 2);
            due.be("flag(0, LIT) by " + (k - 1), x.flag(0, LIT), (k - 1) % 2);
        }
        x.standard(6, LIT, NONE);
        due.be("flag(0, LIT) at last", x.flag(0, LIT), 1);
        x.standard(ROOM, LIT, 0);
        due.be("flag(0, LIT) by ROOM", x.flag(0, LIT), 0);
        x.standard(ROOM, LIT, NONE);
        x.standard(THING, LIT, 0);
        due.be("flag(0, LIT) not by THING", x.flag(0, LIT), 1);
    }

    private static void standardTellsWhatItWas() {
        due.sentence(3, "what it was (NONE)");
        TalePlay x = new TalePlay();
        int[] values = {0, 0, 1, 1, NONE, NONE, 1, 0, NONE, 0};
        int was = NONE;
        for (int v : values) {
            due.be("standard(5, 5, " + v + ")", x.standard(5, 5, v), was);
            due.be("standard(5, 4, NONE)", x.standard(5, 4, NONE), NONE);
            due.be("standard(4, 5, NONE)", x.standard(4, 5, NONE), NONE);
            was = v;
        }
    }

    private static void standardDoesSomething() {
        due.sentence(3, "It does something, also if it was so");
        TalePlay x = Worlds.roomAndMan();
        x.begin(1);
        due.be("standard(0, 0, NONE)", x.standard(0, 0, NONE), NONE);
        due.be("light()", x.light(), STATE);
        x.standard(2, 3, 1);
        x.begin(1);
        due.be("standard(2, 3, 1)", x.standard(2, 3, 1), 1);
        due.be("count(6)", x.count(6), NONE);
        x.begin(1);
        due.be("standard(2, 3, 2)", x.standard(2, 3, 2), BAD);
        due.be("count(6) stays by BAD", x.count(6), 1);
    }

    private static void makeEndsTales() {
        due.sentence(4, "An OBJECT: its number. BAD: the KIND, the SIZE; FULL");
        TalePlay x = Worlds.roomAndMan();
        x.begin(1);
        due.be("make(6, 0)", x.make(6, 0), BAD);
        due.be("make(0, -1)", x.make(0, -1), BAD);
        due.be("count(6) stays", x.count(6), 1);
        due.be("make(0, 0)", x.make(0, 0), 2);
        due.be("count(6)", x.count(6), NONE);
        due.be("the new one is nowhere", x.place(2, 0), NONE);
    }

    private static void bulkIs(TalePlay x, int object, long bulk, int... trace) {
        due.be("bulk(" + object + ")", x.bulk(object), 1);
        due.be("asked() of bulk(" + object + ")", x.asked(), bulk);
        for (int i = 0; i < trace.length; i++) {
            due.be("trace(" + i + ") of bulk(" + object + ")", x.trace(i), trace[i]);
        }
        due.be("the end of the trace of bulk(" + object + ")", x.trace(trace.length), NONE);
    }

    private static void bulkCountsInAndOnAlone() {
        TalePlay x = new TalePlay();
        int box = x.make(BOX, 5);
        int stand = x.make(STAND, 6);
        int man = x.make(PERSON, 7);
        int cup = x.make(THING, 8);
        int nut = x.make(THING, 9);
        due.sentence(0, "2 of BOXES: what 1 gives, and the BULKS of those that are IN it");
        bulkIs(x, box, 5, 2, 1);
        Worlds.say(x, PART, cup, box, 0);
        bulkIs(x, box, 5, 2, 1);
        Worlds.say(x, IN, nut, box, 0);
        bulkIs(x, box, 14, 2, 1, 1);
        due.sentence(0, "3 of STANDS: what 1 gives, and the BULKS of those that are ON it");
        Worlds.say(x, PART, box, stand, 0);
        bulkIs(x, stand, 6, 3, 1);
        Worlds.say(x, ON, man, stand, 0);
        bulkIs(x, stand, 20, 3, 1, 5, 1);
        due.sentence(0, "5 of PERSONS: twice what 1 gives");
        x.unsay(1);
        Worlds.say(x, HELD, nut, man, 0);
        bulkIs(x, man, 14, 5, 1);
        x.unsay(0);
        Worlds.say(x, WORN, cup, man, 0);
        bulkIs(x, man, 14, 5, 1);
        bulkIs(x, stand, 20, 3, 1, 5, 1);
        due.sentence(0, "1 of THINGS: the SIZE");
        x.unsay(2);
        Worlds.say(x, PART, box, cup, 0);
        bulkIs(x, cup, 8, 1);
    }

    private static void bulkByNumbers() {
        due.sentence(0, "by numbers");
        TalePlay x = new TalePlay();
        int man = x.make(PERSON, 1);
        int stand = x.make(STAND, 1);
        int box = x.make(BOX, 1);
        int cup = x.make(THING, 1);
        int tray = x.make(STAND, 1);
        Worlds.say(x, IN, tray, box, 0);
        Worlds.say(x, IN, cup, box, 0);
        Worlds.say(x, IN, stand, box, 0);
        Worlds.say(x, IN, man, box, 0);
        bulkIs(x, box, 6, 2, 1, 5, 1, 3, 1, 1, 3, 1);
        x.unsay(1);
        Worlds.say(x, ON, cup, stand, 0);
        bulkIs(x, box, 6, 2, 1, 5, 1, 3, 1, 1, 3, 1);
        x.unsay(4);
        Worlds.say(x, ON, cup, tray, 0);
        bulkIs(x, box, 6, 2, 1, 5, 1, 3, 1, 3, 1, 1);
    }

    private static void bulkAsItStands() {
        due.sentence(0, "Those that are there now: in a TALE as it stands, else as SAID");
        TalePlay x = Worlds.roomAndMan();
        int stand = Worlds.thing(x, STAND, 5, IN, 0);
        int cup = Worlds.thing(x, THING, 3, ON, stand);
        bulkIs(x, stand, 8, 3, 1, 1);
        x.begin(1);
        bulkIs(x, stand, 8, 3, 1, 1);
        x.act(Worlds.TAKE, cup, 0);
        bulkIs(x, stand, 5, 3, 1);
        due.be("share(cup, 1)", x.share(cup, 1), 1);
        due.be("asked()", x.asked(), 1000);
        x.back();
        bulkIs(x, stand, 8, 3, 1, 1);
        x.act(Worlds.ENTER, stand, 0);
        bulkIs(x, stand, 28, 3, 1, 5, 1, 1);
        x.standard(0, 0, NONE);
        bulkIs(x, stand, 8, 3, 1, 1);
        due.find("share(cup, 1): he holds none as said", x, x.share(cup, 1), Worlds.NOUGHT);
    }

    private static void traceOfLatestBulk() {
        due.sentence(6, "THE TRACE is empty ahead of it (not by BAD)");
        TalePlay x = Worlds.twelve();
        int light = x.make(DOOR, 0);
        bulkIs(x, 3, 3, 2, 1);
        due.be("bulk(13)", x.bulk(13), BAD);
        due.sentence(8, "Number i of THE TRACE of the latest bulk() that was not BAD; NONE");
        due.be("trace(0)", x.trace(0), 2);
        due.be("trace(1)", x.trace(1), 1);
        due.be("trace(2)", x.trace(2), NONE);
        due.find("bulk(0)", x, x.bulk(0), Worlds.UNLIKE);
        due.be("trace(0) of a room", x.trace(0), NONE);
        due.find("bulk(light)", x, x.bulk(light), Worlds.NOUGHT);
        due.be("trace(0) of NOUGHT", x.trace(0), 4);
        due.be("trace(1) of NOUGHT", x.trace(1), 1);
        due.be("trace(2) of NOUGHT", x.trace(2), NONE);
        due.be("bulk(-1)", x.bulk(-1), BAD);
        due.be("trace(0) stays by BAD", x.trace(0), 4);
        bulkIs(x, 1, 1, 1);
    }

    private static void askedOfLatest() {
        due.sentence(7, "What the latest bulk(), share(), item() that answered 1 told; 0 before");
        TalePlay x = Worlds.twelve();
        due.be("asked()", x.asked(), 0);
        due.find("bulk(0)", x, x.bulk(0), Worlds.UNLIKE);
        due.be("asked() behind a refusal", x.asked(), 0);
        x.bulk(9);
        due.be("asked() of bulk()", x.asked(), 9);
        due.find("share(9, 0)", x, x.share(9, 0), Worlds.NOUGHT);
        due.find("item(0, 0, 0)", x, x.item(0, 0, 0), Worlds.NOTHING);
        due.be("bulk(12)", x.bulk(12), BAD);
        due.be("asked() stays", x.asked(), 9);
        x.line(0, Worlds.LONGS, 1);
        x.put(0, Worlds.LONGS, 0, Long.MIN_VALUE);
        due.be("asked(): not by put()", x.asked(), 9);
        x.item(0, Worlds.LONGS, 0);
        due.be("asked() of item()", x.asked(), Long.MIN_VALUE);
        Worlds.say(x, IN, 9, 0, 0);
        x.share(9, 0);
        due.be("asked() of share()", x.asked(), 1000);
        x.item(0, Worlds.LONGS, 1);
        x.copy(0, Worlds.LONGS, 0, 0, 0, 1);
        due.be("asked() stays", x.asked(), 1000);
    }

    private static void shareIs(TalePlay x, int object, int holder, long share) {
        due.be("share(" + object + ", " + holder + ")", x.share(object, holder), 1);
        due.be("asked() of share(" + object + ", " + holder + ")", x.asked(), share);
    }

    private static void shareOfWhom() {
        due.sentence(9, "all that lie in, on, are held, worn by, part of another OBJECT at once, together");
        TalePlay x = Worlds.roomAndMan();
        int box = Worlds.thing(x, BOX, 1, IN, 0);
        int nut = Worlds.thing(x, THING, 2, IN, box);
        int held = Worlds.thing(x, THING, 4, HELD, 1);
        Worlds.thing(x, THING, 8, WORN, 1);
        Worlds.thing(x, THING, 16, PART, 1);
        int stand = Worlds.thing(x, STAND, 32, IN, 0);
        Worlds.thing(x, THING, 64, ON, stand);
        int part = Worlds.thing(x, THING, 50, PART, box);
        shareIs(x, held, 1, 4000 / 28);
        shareIs(x, held, stand, 4000 / 64);
        shareIs(x, nut, box, 2000 / 52);
        shareIs(x, part, box, 50000 / 52);
        shareIs(x, 1, 0, 20000 / (20 + 3 + 96));
        shareIs(x, box, 0, 3000 / (20 + 3 + 96));
        shareIs(x, stand, 0, 96000 / (20 + 3 + 96));
        due.sentence(9, "UNLIKE: the first is a ROOM");
        due.find("share(0, 1)", x, x.share(0, 1), Worlds.UNLIKE);
    }

    private static void shareIsCut() {
        due.sentence(9, "A thousand times the BULK of a THING by the BULKS of all .. cut, told by asked(): 1");
        int[][] pairs = {{0, 1}, {1, 99}, {1, 3}, {2, 3}, {99, 1}, {99, 99}, {98, 99}, {1, 1}};
        for (int[] pair : pairs) {
            TalePlay x = new TalePlay();
            x.make(THING, pair[0]);
            x.make(BOX, 0);
            x.make(THING, pair[1]);
            Worlds.say(x, IN, 2, 1, 0);
            shareIs(x, 0, 1, 1000 * pair[0] / pair[1]);
        }
        TalePlay x = new TalePlay();
        int door = x.make(DOOR, 3);
        int knob = x.make(THING, 7);
        Worlds.say(x, PART, knob, door, 0);
        shareIs(x, door, door, 33000 / 7);
    }

    private static void shareByNone() {
        due.sentence(9, "NOUGHT (also by a DOOR's BULK)");
        TalePlay x = new TalePlay();
        int box = x.make(BOX, 9);
        int feather = x.make(THING, 0);
        int gate = x.make(DOOR, 0);
        int cup = x.make(THING, 5);
        due.find("among none", x, x.share(cup, box), Worlds.NOUGHT);
        Worlds.say(x, IN, feather, box, 0);
        due.find("among one without bulk", x, x.share(cup, box), Worlds.NOUGHT);
        due.find("one without bulk by itself", x, x.share(feather, box), Worlds.NOUGHT);
        due.find("a door without size among none", x, x.share(gate, box), Worlds.NOUGHT);
        Worlds.say(x, IN, cup, box, 0);
        shareIs(x, feather, box, 0);
        due.find("a door without size", x, x.share(gate, box), Worlds.NOUGHT);
        due.be("asked() stays", x.asked(), 0);
        due.be("findings(NOUGHT)", x.findings(Worlds.NOUGHT), 5);
    }

    private static void shareLeavesTrace() {
        due.sentence(9, "THE TRACE stays");
        TalePlay x = Worlds.twelve();
        int gate = x.make(DOOR, 0);
        Worlds.say(x, IN, 9, 0, 0);
        bulkIs(x, 5, 10, 5, 1);
        shareIs(x, 3, 0, 333);
        due.find("share(gate, 0)", x, x.share(gate, 0), Worlds.NOUGHT);
        due.find("share(0, 0)", x, x.share(0, 0), Worlds.UNLIKE);
        due.be("trace(0)", x.trace(0), 5);
        due.be("trace(1)", x.trace(1), 1);
        due.be("trace(2)", x.trace(2), NONE);
    }
}
