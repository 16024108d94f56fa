/** Where several refusals fit at once, the first one of the document's order is answered. */
public final class OrderTest {
    private static final int BAD = TalePlay.BAD, FULL = TalePlay.FULL, CLASH = TalePlay.CLASH, STATE = TalePlay.STATE,
            NONE = TalePlay.NONE;
    private static final Due due = new Due("OrderTest");

    public static void main(String[] args) {
        badAheadOfFull();
        kinds();
        sayings();
        fullSayings();
        badAheadOfUnlike();
        tales();
        turnsAndStates();
        fullAhead();
        lines();
        copies();
        casts();
        roles();
        due.done();
    }

    private static void badAheadOfFull() {
        due.sentence(0, "Refused is, the first of these that fits, in this order: BAD -1 .. FULL -2");
        TalePlay x = new TalePlay();
        for (int k = 6; k < 24; k++) {
            x.kind(1);
        }
        due.be("kind(24) of 24", x.kind(24), BAD);
        due.be("kind(-1) of 24", x.kind(-1), BAD);
        due.be("kind(1) of 24", x.kind(1), FULL);
        for (int o = 0; o < 30; o++) {
            x.make(1, 1);
        }
        due.sentence(4, "BAD: the KIND, the SIZE; FULL");
        due.be("make(24, 1) of 30", x.make(24, 1), BAD);
        due.be("make(1, 100) of 30", x.make(1, 100), BAD);
        due.be("make(1, -1) of 30", x.make(1, -1), BAD);
        due.be("make(1, 1) of 30", x.make(1, 1), FULL);
    }

    private static void kinds() {
        TalePlay x = Worlds.twelve();
        int light = x.make(Worlds.DOOR, 0);
        due.sentence(6, "BAD; UNLIKE; NOUGHT");
        due.be("bulk(13)", x.bulk(13), BAD);
        due.find("bulk(0)", x, x.bulk(0), Worlds.UNLIKE);
        due.find("bulk of a door of no size", x, x.bulk(light), Worlds.NOUGHT);
        due.sentence(9, "BAD; UNLIKE: the first is a ROOM; NOUGHT (also by a DOOR's BULK)");
        due.be("share(0, 13): a room and none", x.share(0, 13), BAD);
        due.be("share(13, 0)", x.share(13, 0), BAD);
        due.find("share(0, 0): a room among none", x, x.share(0, 0), Worlds.UNLIKE);
        due.find("share(1, 0): among none", x, x.share(1, 0), Worlds.NOUGHT);
        Worlds.say(x, Worlds.IN, 1, 0, 0);
        due.be("share(1, 0)", x.share(1, 0), 1);
        due.find("share(light, 0): a door's bulk", x, x.share(light, 0), Worlds.NOUGHT);
    }

    private static void clash(TalePlay x, int form, int a, int b, int c, int... row) {
        String call = "say(" + form + ", " + a + ", " + b + ", " + c + ")";
        due.be(call, x.say(form, a, b, c), CLASH);
        for (int i = 0; i < row.length; i++) {
            due.be("clash(" + i + ") of " + call, x.clash(i), row[i]);
        }
        due.be("the end of the clash of " + call, x.clash(row.length), NONE);
    }

    private static void sayings() {
        TalePlay x = Worlds.twelve();
        due.sentence(10, "In this order: BAD: the FORM; a, b, c .. UNLIKE: a first, then b");
        due.be("say(8, 12, 12, 0)", x.say(8, 12, 12, 0), BAD);
        due.be("say(0, 0, 12, 0): a is unlike, b is none", x.say(0, 0, 12, 0), BAD);
        due.be("say(0, 12, 1, 0): a is none, b is unlike", x.say(0, 12, 1, 0), BAD);
        due.be("say(5, 1, 1, 10): both are unlike, c is none", x.say(5, 1, 1, 10), BAD);
        due.be("say(6, 0, 0, 2): it can't have it, c is no value", x.say(6, 0, 0, 2), BAD);
        due.be("say(6, 0, 6, 1)", x.say(6, 0, 6, 1), BAD);
        due.be("findings(UNLIKE)", x.findings(Worlds.UNLIKE), 0);
        due.find("say(0, 0, 1, 0): both are unlike", x, x.say(0, 0, 1, 0), Worlds.UNLIKE);
        due.be("findings(UNLIKE): once", x.findings(Worlds.UNLIKE), 1);
        due.sentence(10, "UNLIKE: a first, then b .. CLASH");
        Worlds.say(x, 0, 1, 0, 0);
        due.find("say(2, 1, 0, 0): it has a place", x, x.say(2, 1, 0, 0), Worlds.UNLIKE);
        due.find("say(0, 4, 4, 0): b is a", x, x.say(0, 4, 4, 0), Worlds.UNLIKE);
        clash(x, 1, 4, 4, 0);
        due.sentence(10, "of one that is there already: its number (nothing is done)");
        due.be("say(0, 1, 0, 0)", x.say(0, 1, 0, 0), 0);
        due.be("count(3)", x.count(3), 1);
        due.sentence(0, "that which gives a another place .. those that give b its place");
        Worlds.say(x, 0, 3, 6, 0);
        Worlds.say(x, 0, 9, 3, 0);
        clash(x, 0, 3, 9, 0, 1);
        clash(x, 0, 3, 3, 0, 1);
        x.unsay(1);
        clash(x, 0, 3, 9, 0, 2);
        clash(x, 0, 3, 3, 0);
        due.sentence(0, "those that give b its place .. WORN: that which says that a's GARMENT is 0");
        Worlds.say(x, 6, 3, 4, 0);
        Worlds.say(x, 0, 5, 9, 0);
        clash(x, 3, 3, 5, 0, 4, 2);
        clash(x, 3, 3, 11, 0, 3);
        Worlds.say(x, 0, 3, 0, 0);
        clash(x, 3, 3, 11, 0, 5);
    }

    private static void fullSayings() {
        due.sentence(10, "UNLIKE .. its number (nothing is done); FULL: 200; CLASH");
        TalePlay x = Worlds.twelve();
        Worlds.say(x, 0, 1, 0, 0);
        for (int s = 1; s < 200; s++) {
            Worlds.say(x, 6, 1, 2, 1);
            x.unsay(s);
        }
        clashless(x, "say(8, 0, 0, 0)", x.say(8, 0, 0, 0), BAD);
        clashless(x, "say(0, 12, 0, 0)", x.say(0, 12, 0, 0), BAD);
        clashless(x, "say(0, 0, 0, 0)", x.say(0, 0, 0, 0), TalePlay.FINDING);
        clashless(x, "say(0, 1, 0, 0)", x.say(0, 1, 0, 0), 0);
        clashless(x, "say(0, 1, 6, 0), which would clash", x.say(0, 1, 6, 0), FULL);
        clashless(x, "say(1, 4, 4, 0), which would clash", x.say(1, 4, 4, 0), FULL);
        clashless(x, "say(6, 1, 2, 1), which was unsaid", x.say(6, 1, 2, 1), FULL);
    }

    private static void clashless(TalePlay x, String call, int got, int want) {
        due.be(call, got, want);
        due.be("clash(0) of " + call, x.clash(0), NONE);
    }

    private static void badAheadOfUnlike() {
        TalePlay x = Worlds.twelve();
        due.sentence(15, "BAD; UNLIKE: no ROOM");
        due.be("exit(1, 10, 0)", x.exit(1, 10, 0), BAD);
        due.be("exit(1, 0, 4)", x.exit(1, 0, 4), BAD);
        due.find("exit(1, 0, 0)", x, x.exit(1, 0, 0), Worlds.UNLIKE);
        due.sentence(16, "BAD; UNLIKE: it can't have it");
        due.be("flag(0, 6)", x.flag(0, 6), BAD);
        due.be("flag(12, 0)", x.flag(12, 0), BAD);
        due.find("flag(0, 0)", x, x.flag(0, 0), Worlds.UNLIKE);
        due.sentence(18, "BAD; UNLIKE: either");
        due.be("way(1, 12, false)", x.way(1, 12, false), BAD);
        due.be("way(12, 1, false)", x.way(12, 1, false), BAD);
        due.find("way(1, 0, false)", x, x.way(1, 0, false), Worlds.UNLIKE);
        due.find("way(0, 1, false)", x, x.way(0, 1, false), Worlds.UNLIKE);
        due.find("way(1, 1, false): the same, but no room", x, x.way(1, 1, false), Worlds.UNLIKE);
        due.sentence(19, "BAD; UNLIKE: either");
        due.be("toward(1, 12, true)", x.toward(1, 12, true), BAD);
        due.find("toward(2, 0, true)", x, x.toward(2, 0, true), Worlds.UNLIKE);
        due.find("toward(0, 2, true)", x, x.toward(0, 2, true), Worlds.UNLIKE);
        due.find("toward(2, 2, true)", x, x.toward(2, 2, true), Worlds.UNLIKE);
        due.be("findings(UNLIKE): once each", x.findings(Worlds.UNLIKE), 8);
    }

    private static void tales() {
        due.sentence(20, "BAD; UNLIKE: no PERSON; NOTHING: no ROOM is UP from him");
        TalePlay x = Worlds.twelve();
        due.be("begin(12)", x.begin(12), BAD);
        due.find("begin(3): no person, and nowhere", x, x.begin(3), Worlds.UNLIKE);
        due.find("begin(0): a room", x, x.begin(0), Worlds.UNLIKE);
        due.find("begin(5): nowhere", x, x.begin(5), Worlds.NOTHING);
        due.sentence(23, "BAD; STATE: no TALE");
        due.be("now(12, 0)", x.now(12, 0), BAD);
        due.be("now(0, 7)", x.now(0, 7), BAD);
        due.be("now(0, 0)", x.now(0, 0), STATE);
        due.sentence(26, "BAD; STATE: no TALE");
        due.be("seek(12, 0, 0)", x.seek(12, 0, 0), BAD);
        due.be("seek(0, 12, 0)", x.seek(0, 12, 0), BAD);
        due.be("seek(0, 0, 301)", x.seek(0, 0, 301), BAD);
        due.be("seek(0, 0, -1)", x.seek(0, 0, -1), BAD);
        due.be("seek(0, 0, 0)", x.seek(0, 0, 0), STATE);
        due.sentence(21, "BAD: the ACT, OBJECTS, DIRECTION; FULL: 100 TURNS; STATE: no TALE");
        due.be("act(13, 0, 0)", x.act(13, 0, 0), BAD);
        due.be("act(0, 10, 0)", x.act(0, 10, 0), BAD);
        due.be("act(1, 12, 0)", x.act(1, 12, 0), BAD);
        due.be("act(3, 0, 12)", x.act(3, 0, 12), BAD);
        due.be("act(0, 9, 12)", x.act(0, 9, 12), STATE);
        due.be("act(1, 0, 12)", x.act(1, 0, 12), STATE);
        due.be("act(11, 12, 12)", x.act(11, 12, 12), STATE);
    }

    private static void turnsAndStates() {
        due.sentence(24, "BAD: what, i below 0; STATE: no TALE; BAD: not so many TURNS");
        TalePlay x = Worlds.roomAndMan();
        due.be("turn(0, 3) without a tale", x.turn(0, 3), BAD);
        due.be("turn(-1, 0) without a tale", x.turn(-1, 0), BAD);
        due.be("turn(0, 0) without a tale", x.turn(0, 0), STATE);
        due.be("turn(100, 0) without a tale", x.turn(100, 0), STATE);
        x.begin(1);
        due.be("turn(0, 0) of none", x.turn(0, 0), BAD);
        x.act(12, 0, 0);
        due.be("turn(0, 0)", x.turn(0, 0), 12);
        due.be("turn(1, 0)", x.turn(1, 0), BAD);
        x.back();
        due.be("turn(0, 0) behind back()", x.turn(0, 0), BAD);
    }

    private static void fullAhead() {
        due.sentence(21, "BAD: the ACT, OBJECTS, DIRECTION; FULL: 100 TURNS");
        TalePlay x = Worlds.roomAndMan();
        x.begin(1);
        for (int t = 0; t < 100; t++) {
            x.act(12, 0, 0);
        }
        due.be("act(13, 0, 0)", x.act(13, 0, 0), BAD);
        due.be("act(0, 10, 0)", x.act(0, 10, 0), BAD);
        due.be("act(1, 2, 0)", x.act(1, 2, 0), BAD);
        due.be("act(7, 0, 2)", x.act(7, 0, 2), BAD);
        due.be("act(1, 0, 2)", x.act(1, 0, 2), FULL);
        due.be("act(0, 0, 0)", x.act(0, 0, 0), FULL);
        x.make(0, 0);
        due.sentence(21, "STATE: no TALE");
        due.be("act(12, 0, 0): the tale is no more, nor its turns", x.act(12, 0, 0), STATE);
    }

    private static void lines() {
        TalePlay x = Worlds.twelve();
        due.sentence(28, "BAD: also n above 12; SIZE: n below 0");
        due.be("line(12, 0, -1)", x.line(12, 0, -1), BAD);
        due.be("line(0, 4, -1)", x.line(0, 4, -1), BAD);
        due.be("line(0, -1, -1)", x.line(0, -1, -1), BAD);
        due.find("line(0, 0, -1)", x, x.line(0, 0, -1), Worlds.SIZE);
        due.sentence(29, "BAD: OBJECT, sort; NOTHING: no LINE; UNLIKE: it is of another sort; BEYOND");
        x.line(1, Worlds.INTS, 2);
        due.be("put(12, 4, 9, 0)", x.put(12, 4, 9, 0), BAD);
        due.be("put(0, 4, 9, 0)", x.put(0, 4, 9, 0), BAD);
        due.find("put(0, INTS, 9, 0)", x, x.put(0, Worlds.INTS, 9, 0), Worlds.NOTHING);
        due.find("put(1, BYTES, 9, 0)", x, x.put(1, Worlds.BYTES, 9, 0), Worlds.UNLIKE);
        due.find("put(1, INTS, 9, 0)", x, x.put(1, Worlds.INTS, 9, 0), Worlds.BEYOND);
        due.sentence(30, "As put()");
        due.be("item(12, 4, 9)", x.item(12, 4, 9), BAD);
        due.be("item(0, 4, 9)", x.item(0, 4, 9), BAD);
        due.find("item(0, INTS, 9)", x, x.item(0, Worlds.INTS, 9), Worlds.NOTHING);
        due.find("item(1, BYTES, 9)", x, x.item(1, Worlds.BYTES, 9), Worlds.UNLIKE);
        due.find("item(1, INTS, 9)", x, x.item(1, Worlds.INTS, 9), Worlds.BEYOND);
    }

    private static void copies() {
        due.sentence(31, "Of the first one, then of the other: NOTHING is looked at behind both UNLIKE");
        TalePlay x = Worlds.twelve();
        x.line(1, Worlds.INTS, 2);
        x.line(2, Worlds.INTS, 2);
        x.line(3, Worlds.LONGS, 2);
        due.be("copy(0, 4, 9, 0, 9, 9)", x.copy(0, 4, 9, 0, 9, 9), BAD);
        due.be("copy(12, INTS, ..)", x.copy(12, Worlds.INTS, 9, 0, 9, 9), BAD);
        due.be("copy(.., 12, ..)", x.copy(3, Worlds.INTS, 9, 12, 9, 9), BAD);
        due.find("the first is unlike, the other has none", x, x.copy(3, 1, 9, 0, 9, 9), Worlds.UNLIKE);
        due.find("the first has none, the other is unlike", x, x.copy(0, 1, 9, 3, 9, 9), Worlds.UNLIKE);
        due.find("the first is beyond, the other is unlike", x, x.copy(1, 1, 9, 3, 0, 1), Worlds.UNLIKE);
        due.find("the first is beyond, the other has none", x, x.copy(1, 1, 9, 0, 0, 1), Worlds.NOTHING);
        due.find("the first has none, the other is beyond", x, x.copy(0, 1, 0, 1, 9, 1), Worlds.NOTHING);
        due.find("neither has one", x, x.copy(0, 1, 0, 4, 0, 0), Worlds.NOTHING);
        due.find("n is below 0, the other has none", x, x.copy(1, 1, 0, 0, 0, -1), Worlds.NOTHING);
        due.find("n is below 0", x, x.copy(1, 1, 0, 2, 0, -1), Worlds.BEYOND);
        due.find("the first is beyond", x, x.copy(1, 1, 1, 2, 0, 2), Worlds.BEYOND);
        due.find("the other is beyond", x, x.copy(1, 1, 0, 2, 1, 2), Worlds.BEYOND);
        due.be("findings(UNLIKE): once each", x.findings(Worlds.UNLIKE), 3);
        due.be("findings(NOTHING): once each", x.findings(Worlds.NOTHING), 4);
        due.be("findings(BEYOND): once each", x.findings(Worlds.BEYOND), 3);
    }

    private static void casts() {
        due.sentence(32, "BAD: also n above 12; FULL; SIZE");
        TalePlay x = new TalePlay();
        due.be("cast(0, -1)", x.cast(0, -1), BAD);
        due.be("cast(6, -1)", x.cast(6, -1), BAD);
        due.find("cast(5, -1)", x, x.cast(5, -1), Worlds.SIZE);
        for (int c = 0; c < 10; c++) {
            x.cast(1, c);
        }
        due.be("cast(0, -1) of 10", x.cast(0, -1), BAD);
        due.be("cast(1, 13) of 10", x.cast(1, 13), BAD);
        due.be("cast(1, -1) of 10", x.cast(1, -1), FULL);
        due.be("findings(SIZE)", x.findings(Worlds.SIZE), 1);
    }

    private static void roles() {
        due.sentence(33, "BAD; UNLIKE: a ROOM; BEYOND; MISFIT: not of that sort");
        TalePlay x = Worlds.twelve();
        x.cast(Worlds.BOX, 2);
        due.be("role(1, 9, 0)", x.role(1, 9, 0), BAD);
        due.be("role(0, 9, 12)", x.role(0, 9, 12), BAD);
        due.find("role(0, 9, 0)", x, x.role(0, 9, 0), Worlds.UNLIKE);
        due.find("role(0, -1, 0)", x, x.role(0, -1, 0), Worlds.UNLIKE);
        due.find("role(0, 2, 1)", x, x.role(0, 2, 1), Worlds.BEYOND);
        due.find("role(0, 1, 1)", x, x.role(0, 1, 1), Worlds.MISFIT);
        due.sentence(34, "BAD; BEYOND; NOTHING: it is empty");
        due.be("who(1, 9)", x.who(1, 9), BAD);
        due.find("who(0, 2)", x, x.who(0, 2), Worlds.BEYOND);
        due.find("who(0, 1)", x, x.who(0, 1), Worlds.NOTHING);
    }
}
