/** What is empty, full, least and most: each sentence of the document that names how many there may be. */
public final class LimitsTest {
    private static final int BAD = TalePlay.BAD, FULL = TalePlay.FULL, CLASH = TalePlay.CLASH, NONE = TalePlay.NONE;
    private static final Due due = new Due("LimitsTest");

    public static void main(String[] args) {
        mostKinds();
        mostObjects();
        actsWithMostObjects();
        leastAndMostSize();
        longestTrace();
        deepestBulk();
        mostSentences();
        longestClash();
        mostDirections();
        longestWay();
        deepestPlace();
        mostTurns();
        mostInABox();
        mostOnAStand();
        mostToHold();
        mostStates();
        statesTriedFrom();
        mostItems();
        mostCasts();
        mostRoles();
        due.done();
    }

    private static void mostKinds() {
        due.sentence(0, "KINDS 0, 1, .. (24 at most)");
        TalePlay x = new TalePlay();
        for (int k = 6; k < 24; k++) {
            due.be("kind(0)", x.kind(0), k);
            due.be("count(0)", x.count(0), k + 1);
        }
        due.sentence(2, "FULL");
        long digest = x.digest();
        due.be("kind(0) of 24", x.kind(0), FULL);
        due.be("kind(23) of 24", x.kind(23), FULL);
        due.be("count(0) stays", x.count(0), 24);
        due.be("digest() stays", x.digest(), digest);
        due.be("the last one has a default", x.standard(23, 5, 1), NONE);
        due.be("the last one has a default", x.standard(23, 5, 0), 1);
        due.be("the last one has objects", x.make(23, 1), 0);
        due.be("is(0, 23)", x.is(0, 23), 1);
        due.be("is(0, 22)", x.is(0, 22), 0);
        due.be("is(0, 0)", x.is(0, 0), 1);
        due.be("there is none behind it", x.make(24, 1), BAD);
    }

    private static void mostObjects() {
        due.sentence(0, "OBJECTS 0, 1, .. (30 at most) are of a KIND");
        TalePlay x = new TalePlay();
        for (int o = 0; o < 28; o++) {
            due.be("make(3, 1)", x.make(3, 1), o);
            due.be("count(1)", x.count(1), o + 1);
        }
        due.be("make(0, 0)", x.make(0, 0), 28);
        due.be("make(5, 1)", x.make(5, 1), 29);
        due.sentence(4, "FULL");
        Worlds.say(x, 0, 29, 28, 0);
        Worlds.say(x, 0, 0, 28, 0);
        x.begin(29);
        long digest = x.digest();
        due.be("make(0, 0) of 30", x.make(0, 0), FULL);
        due.be("make(5, 99) of 30", x.make(5, 99), FULL);
        due.be("count(1) stays", x.count(1), 30);
        due.be("the tale stays", x.count(6), 29);
        due.be("digest() stays", x.digest(), digest);
        due.be("the last one is there", x.now(29, 1), 28);
        due.be("seek(29, 28, 0)", x.seek(29, 28, 0), 0);
        due.be("line(29, 3, 12)", x.line(29, 3, 12), 12);
        due.be("put(29, 3, 11, 7)", x.put(29, 3, 11, 7), 1);
        due.be("item(29, 3, 11)", x.item(29, 3, 11), 1);
        due.be("asked()", x.asked(), 7);
        due.be("cast(5, 12)", x.cast(5, 12), 0);
        due.be("role(0, 11, 29)", x.role(0, 11, 29), 1);
        due.be("who(0, 11)", x.who(0, 11), 29);
        due.be("say(2, 27, 29, 0)", x.say(2, 27, 29, 0), 2);
        due.be("share(27, 29)", x.share(27, 29), 1);
        due.be("asked()", x.asked(), 1000);
    }

    /** A room, a man, an open box, a stand, 25 things that are fixed, and one that is not. */
    private static void actsWithMostObjects() {
        due.sentence(0, "OBJECTS 0, 1, .. (30 at most) are of a KIND");
        TalePlay x = Worlds.roomAndMan();
        int box = Worlds.thing(x, 3, 0, 0, 0);
        int stand = Worlds.thing(x, 4, 0, 0, 0);
        int rock = x.kind(1);
        x.standard(rock, 3, 1);
        x.standard(3, 0, 1);
        for (int o = 4; o < 29; o++) {
            Worlds.thing(x, rock, 0, 0, 0);
        }
        int last = Worlds.thing(x, 1, 0, 0, 0);
        due.be("the last one", last, 29);
        x.begin(1);
        due.be("seek(last, stand, 300)", x.seek(last, stand, 300), 2);
        due.be("seek(last, 4, 300): through all states", x.seek(last, 4, 300), NONE);
        int[][] acts = {{1, last, 0}, {3, last, box}, {1, last, 0}, {4, last, stand}, {1, last, 0}, {2, last, 0},
            {10, box, 0}, {6, box, 0}};
        for (int[] a : acts) {
            due.be("act(" + a[0] + ", " + a[1] + ", " + a[2] + ")", x.act(a[0], a[1], a[2]), 0);
        }
        due.be("now(last, 4): he is in a closed box", x.now(last, 4), 0);
        due.be("now(28, 6)", x.now(28, 6), 0);
    }

    private static void leastAndMostSize() {
        due.sentence(0, "each with a SIZE of its own (0 .. 99)");
        TalePlay x = new TalePlay();
        due.be("make(1, 0)", x.make(1, 0), 0);
        due.be("make(1, 99)", x.make(1, 99), 1);
        due.be("make(1, 100)", x.make(1, 100), BAD);
        due.be("make(1, -1)", x.make(1, -1), BAD);
        due.be("count(1)", x.count(1), 2);
        due.be("bulk(0)", x.bulk(0), 1);
        due.be("asked() of 0", x.asked(), 0);
        due.be("bulk(1)", x.bulk(1), 1);
        due.be("asked() of 99", x.asked(), 99);
        due.sentence(0, "5 of PERSONS: twice what 1 gives");
        bulkOf(5, 0, 0);
        bulkOf(5, 99, 198);
        due.sentence(0, "4 of DOORS: 100 by what 1 gives, cut (NOUGHT)");
        for (int size = 1; size <= 99; size++) {
            bulkOf(2, size, 100 / size);
        }
        bulkOf(2, 1, 100);
        bulkOf(2, 3, 33);
        bulkOf(2, 50, 2);
        bulkOf(2, 51, 1);
        bulkOf(2, 99, 1);
        TalePlay none = new TalePlay();
        none.make(2, 0);
        due.find("bulk of a door of size 0", none, none.bulk(0), Worlds.NOUGHT);
    }

    private static void bulkOf(int kind, int size, int bulk) {
        TalePlay x = new TalePlay();
        x.make(kind, size);
        due.be("bulk(0)", x.bulk(0), 1);
        due.be("asked() of kind " + kind + ", size " + size, x.asked(), bulk);
    }

    /** No bulk can write more than two numbers for each object, so the hundred is never full. */
    private static void longestTrace() {
        due.sentence(0, "writes its number behind THE TRACE (100 at most; more are not written)");
        TalePlay x = new TalePlay();
        for (int o = 0; o < 30; o++) {
            x.make(o < 15 ? 3 : 5, 99);
        }
        for (int box = 0; box < 15; box++) {
            Worlds.say(x, 0, 15 + box, box, 0);
            if (box < 14) {
                Worlds.say(x, 0, box, box + 1, 0);
            }
        }
        due.be("bulk(14)", x.bulk(14), 1);
        due.be("asked()", x.asked(), 15 * 99 + 15 * 198);
        int boxes = 0;
        int men = 0;
        for (int i = 0; i < 60; i += 2) {
            boxes += x.trace(i) == 2 ? 1 : 0;
            men += x.trace(i) == 5 ? 1 : 0;
            due.be("trace(" + (i + 1) + ")", x.trace(i + 1), 1);
        }
        due.be("boxes in it", boxes, 15);
        due.be("persons in it", men, 15);
        due.be("trace(59)", x.trace(59), 1);
        due.be("trace(60)", x.trace(60), NONE);
        due.be("trace(99)", x.trace(99), NONE);
        due.be("trace(100)", x.trace(100), NONE);
    }

    private static void deepestBulk() {
        due.sentence(0, "3 of STANDS: what 1 gives, and the BULKS of those that are ON it, by numbers");
        TalePlay x = new TalePlay();
        for (int o = 0; o < 30; o++) {
            x.make(4, 99);
        }
        for (int o = 0; o < 29; o++) {
            Worlds.say(x, 1, o, o + 1, 0);
        }
        for (int o = 0; o < 30; o++) {
            due.be("bulk(o)", x.bulk(o), 1);
            due.be("asked() of " + o, x.asked(), 99 * (o + 1));
        }
        due.be("share(29, 29)", x.share(29, 29), 1);
        due.be("asked() of the greatest share", x.asked(), 1000L * 2970 / 2871);
    }

    private static void mostSentences() {
        due.sentence(0, "SENTENCES 0, 1, .. (200 at most, also those that are UNSAID)");
        TalePlay x = new TalePlay();
        for (int o = 0; o < 20; o++) {
            x.make(0, 0);
        }
        for (int s = 0; s < 199; s++) {
            due.be("say", x.say(5, s / 10, s % 20, s % 10), s);
        }
        due.be("unsay(0)", x.unsay(0), 198);
        due.be("say the last one", x.say(5, 19, 0, 9), 199);
        due.be("count(2)", x.count(2), 199);
        due.be("count(3)", x.count(3), 200);
        due.sentence(10, "FULL: 200");
        long digest = x.digest();
        due.be("say(5, 0, 0, 0), which was unsaid", x.say(5, 0, 0, 0), FULL);
        due.be("say(6, 0, 2, 1)", x.say(6, 0, 2, 1), FULL);
        due.be("count(2) stays", x.count(2), 199);
        due.be("count(3) stays", x.count(3), 200);
        due.be("digest() stays", x.digest(), digest);
        due.be("one that is there already: its number", x.say(5, 19, 0, 9), 199);
        due.be("sentence(199, 4)", x.sentence(199, 4), 1);
        due.be("unsay(199)", x.unsay(199), 198);
        due.be("say(5, 19, 0, 9) again", x.say(5, 19, 0, 9), FULL);
        for (int s = 1; s < 199; s++) {
            due.be("unsay(s)", x.unsay(s), 198 - s);
        }
        due.be("count(2) of none", x.count(2), 0);
        due.be("say(6, 0, 2, 1) of none", x.say(6, 0, 2, 1), FULL);
    }

    private static void longestClash() {
        due.sentence(0, "those that give b its place, then what b lies in, and so on, up to that which has a as its b");
        TalePlay x = new TalePlay();
        for (int o = 0; o < 30; o++) {
            x.make(3, 0);
        }
        for (int o = 28; o >= 0; o--) {
            Worlds.say(x, 0, o, o + 1, 0);
        }
        due.be("say(0, 29, 0, 0)", x.say(0, 29, 0, 0), CLASH);
        for (int i = 0; i < 29; i++) {
            due.be("clash(" + i + ")", x.clash(i), 28 - i);
        }
        due.be("clash(29)", x.clash(29), NONE);
        due.be("say(0, 29, 28, 0)", x.say(0, 29, 28, 0), CLASH);
        due.be("clash(0) of the shortest", x.clash(0), 0);
        due.be("clash(1) of the shortest", x.clash(1), NONE);
        due.sentence(0, "none, if b is a");
        due.be("say(0, 29, 29, 0)", x.say(0, 29, 29, 0), CLASH);
        due.be("clash(0)", x.clash(0), NONE);
    }

    private static void mostDirections() {
        due.sentence(0, "DIRECTIONS 0 .. 9; the OPPOSITE of d is d + 1 if d is even, else d - 1");
        int[] opposites = {1, 0, 3, 2, 5, 4, 7, 6, 9, 8};
        TalePlay x = Worlds.rooms(11, 0);
        for (int d = 0; d < 10; d++) {
            Worlds.say(x, 5, 10, d, d);
        }
        for (int d = 0; d < 10; d++) {
            due.be("exit(10, d, 0)", x.exit(10, d, 0), d);
            due.be("exit(d, opposite, 0)", x.exit(d, opposites[d], 0), 10);
            due.be("exit(d, opposite, 2)", x.exit(d, opposites[d], 2), d);
            due.be("exit(d, opposite, 3)", x.exit(d, opposites[d], 3), 1);
            due.be("exit(d, d, 0)", x.exit(d, d, 0), NONE);
            due.be("way(10, d, true)", x.way(10, d, true), 1);
            due.be("toward(10, d, true)", x.toward(10, d, true), d);
            due.be("toward(d, 10, true)", x.toward(d, 10, true), opposites[d]);
        }
        due.be("say(5, 10, 0, 10)", x.say(5, 10, 0, 10), BAD);
        due.be("say(5, 10, 0, -1)", x.say(5, 10, 0, -1), BAD);
    }

    private static void longestWay() {
        due.sentence(18, "How many EXITS it takes at least from a ROOM to another one .. NONE");
        TalePlay x = Worlds.rooms(30, 0);
        for (int r = 0; r < 29; r++) {
            Worlds.say(x, 5, r, r + 1, 9);
        }
        due.be("way(0, 29, false)", x.way(0, 29, false), 29);
        due.be("way(29, 0, false)", x.way(29, 0, false), 29);
        due.be("way(29, 29, false)", x.way(29, 29, false), 0);
        due.be("toward(0, 29, true)", x.toward(0, 29, true), 9);
        due.be("toward(29, 0, true)", x.toward(29, 0, true), 8);
        due.sentence(19, "NONE: there is none, or it is the same ROOM");
        due.be("toward(29, 29, false)", x.toward(29, 29, false), NONE);
        x.unsay(14);
        due.be("way(0, 14, false)", x.way(0, 14, false), 14);
        due.be("way(0, 15, false)", x.way(0, 15, false), NONE);
        due.be("toward(0, 15, false)", x.toward(0, 15, false), NONE);
        due.be("way(29, 15, false)", x.way(29, 15, false), 14);
    }

    /** A room, 28 open boxes one in the other, and a man in the last one. */
    private static void deepestPlace() {
        due.sentence(20, "the ROOM that is UP from THE PLAYER");
        TalePlay x = new TalePlay();
        x.make(0, 0);
        for (int o = 1; o < 29; o++) {
            x.make(3, 0);
            Worlds.say(x, 0, o, o - 1, 0);
        }
        x.make(5, 0);
        x.standard(3, 0, 1);
        Worlds.say(x, 0, 29, 28, 0);
        due.be("begin(29)", x.begin(29), 0);
        due.be("light()", x.light(), 1);
        for (int o = 1; o < 30; o++) {
            due.be("now(o, 6)", x.now(o, 6), 0);
            due.be("now(o, 5)", x.now(o, 5), 1);
        }
        due.sentence(0, "11 LEAVE: 1 he IS IN a ROOM himself");
        for (int o = 27; o >= 0; o--) {
            due.be("act LEAVE", x.act(11, 0, 0), 0);
            due.be("now(29, 1)", x.now(29, 1), o);
        }
        due.be("act LEAVE of the room", x.act(11, 0, 0), 1);
        due.be("count(5)", x.count(5), 28);
        due.be("seek(29, 28, 300)", x.seek(29, 28, 300), 1);
    }

    private static void mostTurns() {
        due.sentence(0, "TURNS are the ACTS that were done (100 at most)");
        TalePlay x = Worlds.roomAndMan();
        int cup = Worlds.thing(x, 1, 1, 0, 0);
        x.begin(1);
        for (int t = 0; t < 100; t++) {
            int verb = 1 + t % 2;
            if (t > 0) {
                due.be("one that is not done is no turn", x.act(3 - verb, cup, 0), verb == 1 ? 11 : 6);
            }
            due.be("TAKE, DROP", x.act(verb, cup, 0), 0);
            due.be("count(5)", x.count(5), t + 1);
        }
        due.sentence(21, "FULL: 100 TURNS");
        long digest = x.digest();
        due.be("act(WAIT)", x.act(12, 0, 0), FULL);
        due.be("act(TAKE)", x.act(1, cup, 0), FULL);
        due.be("one that could not be done", x.act(2, cup, 0), FULL);
        due.be("count(5) stays", x.count(5), 100);
        due.be("digest() stays", x.digest(), digest);
        due.be("turn(99, 0)", x.turn(99, 0), 2);
        due.be("turn(100, 0)", x.turn(100, 0), BAD);
        due.sentence(22, "The latest TURN is undone: how many there are then. STATE: no TALE, or none");
        due.be("back()", x.back(), 99);
        due.be("now(cup, 0)", x.now(cup, 0), 2);
        due.be("act(DROP)", x.act(2, cup, 0), 0);
        due.be("act(WAIT) of 100 again", x.act(12, 0, 0), FULL);
        for (int t = 99; t >= 0; t--) {
            due.be("back()", x.back(), t);
        }
        due.be("back() of none", x.back(), TalePlay.STATE);
        due.sentence(20, "in place of one that is there; TURNS are none");
        due.be("begin(1)", x.begin(1), 0);
        due.be("count(5)", x.count(5), 0);
    }

    private static void mostInABox() {
        due.sentence(0, "14 eight are IN y");
        for (int there = 6; there <= 10; there++) {
            TalePlay x = Worlds.roomAndMan();
            int box = Worlds.thing(x, 3, 0, 0, 0);
            Worlds.flag(x, box, 0, 1);
            int first = 0;
            for (int i = 0; i < there; i++) {
                first = Worlds.thing(x, 1, 0, 0, box);
            }
            Worlds.thing(x, 1, 0, 4, box);
            int nut = Worlds.thing(x, 1, 0, 2, 1);
            x.begin(1);
            due.be("act PUT IN with " + there + " there", x.act(3, nut, box), there >= 8 ? 14 : 0);
            x.begin(1);
            due.be("one is taken", x.act(1, first, 0), 0);
            due.be("act PUT IN with one fewer than " + there, x.act(3, nut, box), there > 8 ? 14 : 0);
            x.begin(1);
            due.be("ENTER does not count them", x.act(10, box, 0), 0);
            due.be("DROP does not count them", x.act(2, nut, 0), 0);
            due.be("now(nut, 1)", x.now(nut, 1), box);
        }
    }

    private static void mostOnAStand() {
        due.sentence(0, "14 eight are ON y");
        for (int there = 6; there <= 10; there++) {
            TalePlay x = Worlds.roomAndMan();
            int stand = Worlds.thing(x, 4, 0, 0, 0);
            for (int i = 0; i < there; i++) {
                Worlds.thing(x, i == 0 ? 5 : 1, 0, 1, stand);
            }
            Worlds.thing(x, 1, 0, 4, stand);
            int nut = Worlds.thing(x, 1, 0, 2, 1);
            x.begin(1);
            due.be("act PUT ON with " + there + " there", x.act(4, nut, stand), there >= 8 ? 14 : 0);
            x.begin(1);
            due.be("ENTER does not count them", x.act(10, stand, 0), 0);
            due.be("he is one of them", x.act(4, nut, stand), there >= 7 ? 14 : 0);
        }
    }

    private static void mostToHold() {
        due.sentence(0, "10 the BULK of x and of all that he holds himself (not what he wears) is above 100");
        int[][] sums = {{99, 0, 0}, {99, 1, 0}, {99, 2, 10}, {50, 50, 0}, {50, 51, 10}, {1, 99, 0}, {2, 99, 10}, {0, 0, 0}};
        for (int[] sum : sums) {
            TalePlay x = Worlds.roomAndMan();
            Worlds.thing(x, 1, sum[0], 2, 1);
            Worlds.thing(x, 1, 99, 3, 1);
            Worlds.thing(x, 1, 99, 4, 1);
            int nut = Worlds.thing(x, 1, sum[1], 0, 0);
            x.begin(1);
            due.be("act TAKE " + sum[1] + " with " + sum[0], x.act(1, nut, 0), sum[2]);
        }
        TalePlay x = Worlds.roomAndMan();
        Worlds.thing(x, 1, 60, 2, 1);
        int heavy = Worlds.thing(x, 1, 60, 2, 1);
        int none = Worlds.thing(x, 1, 0, 0, 0);
        x.begin(1);
        due.be("more than 100 may be said to be held: nothing more is taken", x.act(1, none, 0), 10);
        due.be("act DROP", x.act(2, heavy, 0), 0);
        due.be("act TAKE of none", x.act(1, none, 0), 0);
        TalePlay full = Worlds.roomAndMan();
        int box = Worlds.thing(full, 3, 1, 0, 0);
        Worlds.thing(full, 1, 99, 0, box);
        int lid = Worlds.thing(full, 1, 0, 0, 0);
        full.begin(1);
        due.be("act TAKE a box of 100", full.act(1, box, 0), 0);
        due.be("act TAKE of none, with 100", full.act(1, lid, 0), 0);
    }

    /**
     * From the first state come 3 rooms without return, 20 things and the open box; from those with a thing in hand
     * 60 by going, 190 pairs, 20 with the box open; from the open box 3 by going: 298 in all, the gems are next.
     */
    private static void mostStates() {
        due.sentence(0, "when there are 300 (the 300th is looked at, too)");
        TalePlay x = Worlds.roomAndMan();
        for (int way = 0; way < 3; way++) {
            int pit = x.make(0, 0);
            Worlds.say(x, 5, 0, pit, 2 * way);
            Worlds.say(x, 5, pit, pit, 2 * way + 1);
        }
        for (int i = 0; i < 20; i++) {
            Worlds.thing(x, 1, 1, 0, 0);
        }
        int box = Worlds.thing(x, 3, 1, 0, 0);
        Worlds.flag(x, box, 3, 1);
        int[] gems = {Worlds.thing(x, 1, 1, 0, box), Worlds.thing(x, 1, 1, 0, box), Worlds.thing(x, 1, 1, 0, box)};
        x.begin(1);
        due.be("in the 299th", x.seek(gems[0], 1, 300), 2);
        due.be("in the 300th", x.seek(gems[1], 1, 300), 2);
        due.be("in what would be the 301st", x.seek(gems[2], 1, 300), NONE);
        due.be("count(7)", x.count(7), NONE);
        due.be("sought(0, 0)", x.sought(0, 0), NONE);
    }

    private static void statesTriedFrom() {
        due.sentence(26, "trying from n STATES (0 .. 300) at most");
        TalePlay x = Worlds.roomAndMan();
        int cup = Worlds.thing(x, 1, 1, 0, 0);
        x.begin(1);
        due.be("n = 0, the goal is there", x.seek(cup, 0, 0), 0);
        due.be("n = 0, the goal is not there", x.seek(cup, 1, 0), NONE);
        due.be("n = 1", x.seek(cup, 1, 1), 1);
        due.sentence(0, "when none is left");
        due.be("two states alone", x.seek(0, cup, 300), NONE);
        due.be("n = 301", x.seek(cup, 1, 301), BAD);
        due.be("n = -1", x.seek(cup, 0, -1), BAD);
    }

    private static void mostItems() {
        due.sentence(0, "An OBJECT may have a LINE: 0 to 12 ITEMS");
        for (int n = 0; n <= 12; n++) {
            TalePlay x = Worlds.twelve();
            due.be("line", x.line(1, 1, n), n);
            due.be("line of all 12", x.line(2, 1, 12), 12);
            for (int i = 0; i < n; i++) {
                due.be("item(1, 1, i)", x.item(1, 1, i), 1);
                due.be("all 0 at first", x.asked(), 0);
                due.be("put(1, 1, i, i + 1)", x.put(1, 1, i, i + 1), 1);
            }
            due.find("item(1, 1, n)", x, x.item(1, 1, n), Worlds.BEYOND);
            due.find("put(1, 1, n, 5)", x, x.put(1, 1, n, 5), Worlds.BEYOND);
            due.be("copy of all", x.copy(1, 1, 0, 2, 12 - n, n), 1);
            for (int i = 0; i < 12; i++) {
                due.be("item(2, 1, i)", x.item(2, 1, i), 1);
                due.be("asked()", x.asked(), i < 12 - n ? 0 : i - 11 + n);
            }
            due.find("copy of one more", x, x.copy(1, 1, 0, 2, 0, n + 1), Worlds.BEYOND);
        }
    }

    private static void mostCasts() {
        due.sentence(0, "CASTS 0, 1, .. (10 at most)");
        TalePlay x = Worlds.twelve();
        for (int c = 0; c < 10; c++) {
            due.be("cast(1, 12)", x.cast(1, 12), c);
            due.be("count(4)", x.count(4), c + 1);
        }
        due.sentence(32, "FULL");
        due.be("cast(1, 0) of 10", x.cast(1, 0), FULL);
        due.be("count(4) stays", x.count(4), 10);
        due.be("role(9, 11, 11)", x.role(9, 11, 11), 1);
        due.be("who(9, 11)", x.who(9, 11), 11);
        due.be("who(10, 0)", x.who(10, 0), BAD);
        due.find("who(8, 11)", x, x.who(8, 11), Worlds.NOTHING);
    }

    private static void mostRoles() {
        due.sentence(0, "rows of up to 12 ROLES for THINGS that are of a sort");
        for (int n = 0; n <= 12; n++) {
            TalePlay x = Worlds.twelve();
            due.be("cast", x.cast(1, n), 0);
            due.be("the next cast", x.cast(5, 12), 1);
            for (int i = 0; i < n; i++) {
                due.find("who(0, i): empty at first", x, x.who(0, i), Worlds.NOTHING);
                due.be("role(0, i, 1)", x.role(0, i, 1), 1);
                due.be("who(0, i)", x.who(0, i), 1);
            }
            due.find("who(0, n)", x, x.who(0, n), Worlds.BEYOND);
            due.find("role(0, n, 1)", x, x.role(0, n, 1), Worlds.BEYOND);
            due.find("role(0, n, NONE)", x, x.role(0, n, NONE), Worlds.BEYOND);
            due.find("the next cast is empty", x, x.who(1, 0), Worlds.NOTHING);
        }
    }
}
