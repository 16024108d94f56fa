/** Promises 20 to 27 at their edges, sentence by sentence; the order of reasons is held by ReasonsTest. */
public final class TaleEdgesTest {
    private static final int BAD = TalePlay.BAD, STATE = TalePlay.STATE, NONE = TalePlay.NONE;
    private static final int IN = Worlds.IN, ON = Worlds.ON, HELD = Worlds.HELD, WORN = Worlds.WORN, PART = Worlds.PART;
    private static final int OPEN = Worlds.OPEN, LOCKED = Worlds.LOCKED, LIT = Worlds.LIT, GLASS = Worlds.GLASS;
    private static final int GO = Worlds.GO, TAKE = Worlds.TAKE, DROP = Worlds.DROP, PUT_IN = Worlds.PUT_IN,
            PUT_ON = Worlds.PUT_ON, UNCLOSE = Worlds.UNCLOSE, CLOSE = Worlds.CLOSE, UNLOCK = Worlds.UNLOCK,
            LOCK = Worlds.LOCK, WEAR = Worlds.WEAR, ENTER = Worlds.ENTER, LEAVE = Worlds.LEAVE, WAIT = Worlds.WAIT;
    private static final int ROOM = 0, THING = 1, DOOR = 2, BOX = 3, STAND = 4, PERSON = 5;
    private static final Due due = new Due("TaleEdgesTest");

    public static void main(String[] args) {
        beginsAnew();
        beginsAsSaid();
        noRoomUp();
        whatEndsATale();
        whatDoesNotEndATale();
        shells();
        veils();
        ownVeil();
        doorsInView();
        light();
        ownThingsAreSeen();
        lids();
        whatActsDo();
        takesWhatHeWore();
        liesAsHeDoes();
        backOfEachAct();
        nowWithout();
        turnsWithout();
        lightWithoutTale();
        goalAtOnce();
        presentState();
        orderOfTrying();
        statesByFlags();
        waitIsNotTried();
        statesOfEarlierSeeks();
        playStaysTold();
        latestSeek();
        due.done();
    }

    private static void act(TalePlay x, int verb, int a, int b, int answer) {
        due.be("act(" + verb + ", " + a + ", " + b + ")", x.act(verb, a, b), answer);
    }

    private static void lies(TalePlay x, int object, int form, int where) {
        due.be("now(" + object + ", 0)", x.now(object, 0), form);
        due.be("now(" + object + ", 1)", x.now(object, 1), where);
    }

    private static void sight(TalePlay x, int object, int seen, int reached) {
        due.be("now(" + object + ", 4)", x.now(object, 4), seen);
        due.be("now(" + object + ", 5)", x.now(object, 5), reached);
    }

    private static void beginsAnew() {
        due.sentence(20, "A TALE begins (in place of one that is there; TURNS are none)");
        TalePlay x = Worlds.roomAndMan();
        int cup = Worlds.thing(x, THING, 1, IN, 0);
        int other = Worlds.thing(x, PERSON, 1, IN, 0);
        due.be("begin(1)", x.begin(1), 0);
        act(x, TAKE, cup, 0, 0);
        due.be("begin(other)", x.begin(other), 0);
        lies(x, cup, IN, 0);
        due.be("count(5)", x.count(5), 0);
        due.be("count(6)", x.count(6), other);
        due.be("back()", x.back(), STATE);
        due.be("turn(0, 0)", x.turn(0, 0), BAD);
    }

    private static void beginsAsSaid() {
        due.sentence(0, "places, OPEN, LOCKED are as SAID then, and change by ACTS alone");
        TalePlay x = Worlds.roomAndMan();
        int box = Worlds.thing(x, BOX, 1, IN, 0);
        int safe = Worlds.thing(x, BOX, 1, IN, 0);
        int key = Worlds.thing(x, THING, 1, HELD, 1);
        Worlds.flag(x, box, OPEN, 1);
        Worlds.flag(x, safe, LOCKED, 1);
        Worlds.say(x, Worlds.KEY, key, safe, 0);
        for (int time = 0; time < 2; time++) {
            x.begin(1);
            lies(x, key, HELD, 1);
            due.be("now(box, 2)", x.now(box, 2), 1);
            due.be("now(box, 3)", x.now(box, 3), 0);
            due.be("now(safe, 2)", x.now(safe, 2), 0);
            due.be("now(safe, 3)", x.now(safe, 3), 1);
            act(x, CLOSE, box, 0, 0);
            act(x, UNLOCK, safe, key, 0);
            act(x, DROP, key, 0, 0);
            due.be("now(safe, 3)", x.now(safe, 3), 0);
            due.be("flag(safe, LOCKED)", x.flag(safe, LOCKED), 1);
            due.be("place(key, 0)", x.place(key, 0), HELD);
        }
    }

    private static void noRoomUp() {
        due.sentence(20, "NOTHING: no ROOM is UP from him");
        TalePlay x = new TalePlay();
        int man = x.make(PERSON, 1);
        due.find("nowhere", x, x.begin(man), Worlds.NOTHING);
        int stand = x.make(STAND, 1);
        int other = x.make(PERSON, 1);
        int door = x.make(DOOR, 1);
        int s = Worlds.say(x, ON, man, stand, 0);
        due.find("on a stand that is nowhere", x, x.begin(man), Worlds.NOTHING);
        Worlds.say(x, HELD, stand, other, 0);
        due.find("held by one who is nowhere", x, x.begin(man), Worlds.NOTHING);
        x.unsay(1);
        Worlds.say(x, PART, stand, door, 0);
        due.find("on a part of a door", x, x.begin(man), Worlds.NOTHING);
        int room = x.make(ROOM, 0);
        Worlds.say(x, Worlds.EXIT, room, door, 0);
        due.find("on a part of a door of a room", x, x.begin(man), Worlds.NOTHING);
        due.be("count(6)", x.count(6), NONE);
        x.unsay(s);
        Worlds.say(x, IN, man, room, 0);
        due.be("begin(man)", x.begin(man), room);
    }

    private static TalePlay begun() {
        TalePlay x = Worlds.roomAndMan();
        x.begin(1);
        act(x, WAIT, 0, 0, 0);
        return x;
    }

    private static void ended(String call, TalePlay x) {
        due.be("count(6) behind " + call, x.count(6), NONE);
        due.be("count(5) behind " + call, x.count(5), 0);
        due.be("act(WAIT) behind " + call, x.act(WAIT, 0, 0), STATE);
        due.be("back() behind " + call, x.back(), STATE);
        due.be("now(0, 0) behind " + call, x.now(0, 0), STATE);
        due.be("turn(0, 0) behind " + call, x.turn(0, 0), STATE);
        due.be("light() behind " + call, x.light(), STATE);
        due.be("seek(0, 0, 0) behind " + call, x.seek(0, 0, 0), STATE);
    }

    private static void whatEndsATale() {
        due.sentence(0, "A TALE is no more as soon as standard(), make(), say(), unsay() does something");
        TalePlay x = begun();
        due.be("standard(0, 5, NONE)", x.standard(0, 5, NONE), NONE);
        ended("standard()", x);
        x = begun();
        due.be("make(1, 0)", x.make(1, 0), 2);
        ended("make()", x);
        x = begun();
        due.be("say(FLAG, 0, LIT, 1), as it was", x.say(Worlds.FLAG, 0, LIT, 1), 1);
        ended("say()", x);
        x = begun();
        due.be("unsay(0)", x.unsay(0), 0);
        ended("unsay()", x);
    }

    private static void goesOn(String call, TalePlay x) {
        due.be("count(6) behind " + call, x.count(6), 1);
        due.be("count(5) behind " + call, x.count(5), 1);
    }

    private static void whatDoesNotEndATale() {
        due.sentence(0, "does something");
        TalePlay x = begun();
        due.be("standard(0, 6, 0)", x.standard(0, 6, 0), BAD);
        goesOn("a refused standard()", x);
        due.be("make(0, 100)", x.make(0, 100), BAD);
        goesOn("a refused make()", x);
        due.be("say(IN, 1, 0, 0)", x.say(IN, 1, 0, 0), 0);
        goesOn("say() of one that is there", x);
        due.find("say(ON, 1, 0, 0)", x, x.say(ON, 1, 0, 0), Worlds.UNLIKE);
        goesOn("an UNLIKE say()", x);
        due.be("unsay(1)", x.unsay(1), BAD);
        goesOn("a refused unsay()", x);
        due.find("begin(0)", x, x.begin(0), Worlds.UNLIKE);
        goesOn("a refused begin()", x);
        due.be("kind(0)", x.kind(0), 6);
        goesOn("kind()", x);
        x.bulk(1);
        x.share(1, 0);
        x.seek(1, 0, 300);
        x.line(0, 0, 12);
        x.put(0, 0, 0, 1);
        x.copy(0, 0, 0, 0, 1, 1);
        x.cast(5, 1);
        x.role(0, 0, 1);
        goesOn("all others", x);
        due.be("back()", x.back(), 0);
        TalePlay full = Worlds.roomAndMan();
        for (int s = 1; s < 200; s++) {
            Worlds.say(full, Worlds.FLAG, 1, LIT, 1);
            full.unsay(s);
        }
        full.begin(1);
        act(full, WAIT, 0, 0, 0);
        due.be("say() of 200", full.say(Worlds.FLAG, 1, LIT, 1), TalePlay.FULL);
        goesOn("a FULL say()", full);
        TalePlay clash = Worlds.roomAndMan();
        clash.make(ROOM, 0);
        clash.begin(1);
        act(clash, WAIT, 0, 0, 0);
        due.be("say(IN, 1, 2, 0)", clash.say(IN, 1, 2, 0), TalePlay.CLASH);
        goesOn("a CLASH", clash);
    }

    private static void shells() {
        due.sentence(0, "THE SHELL is the first ROOM or VEIL UP from THE PLAYER, THE HAND'S SHELL the first ROOM or LID");
        TalePlay x = Worlds.roomAndMan();
        int box = Worlds.thing(x, BOX, 1, IN, 0);
        int pane = Worlds.thing(x, BOX, 1, IN, box);
        int stand = Worlds.thing(x, STAND, 1, IN, pane);
        int inPane = Worlds.thing(x, THING, 1, IN, pane);
        int inBox = Worlds.thing(x, THING, 1, IN, box);
        int inRoom = Worlds.thing(x, THING, 1, IN, 0);
        Worlds.flag(x, pane, GLASS, 1);
        Worlds.flag(x, box, LIT, 1);
        x.unsay(0);
        Worlds.say(x, ON, 1, stand, 0);
        x.begin(1);
        sight(x, stand, 1, 1);
        sight(x, inPane, 1, 1);
        sight(x, pane, 1, 1);
        sight(x, inBox, 1, 0);
        sight(x, box, 1, 0);
        sight(x, inRoom, 0, 0);
        act(x, UNCLOSE, pane, 0, 0);
        sight(x, inBox, 1, 1);
        sight(x, box, 1, 1);
        sight(x, inRoom, 0, 0);
        act(x, UNCLOSE, box, 0, 0);
        sight(x, inRoom, 1, 1);
        act(x, CLOSE, pane, 0, 0);
        sight(x, inRoom, 1, 0);
        sight(x, box, 1, 0);
        sight(x, pane, 1, 1);
        due.sentence(0, "THE SHELL, if it is a BOX");
        sight(x, 0, 0, 0);
    }

    private static void veils() {
        due.sentence(0, "VEILS are BOXES that are neither OPEN nor GLASS, LIDS those that are not OPEN");
        for (int open = 0; open < 2; open++) {
            for (int glass = 0; glass < 2; glass++) {
                TalePlay x = Worlds.roomAndMan();
                int box = Worlds.thing(x, BOX, 1, IN, 0);
                int nut = Worlds.thing(x, THING, 1, IN, box);
                Worlds.flag(x, box, OPEN, open);
                Worlds.flag(x, box, GLASS, glass);
                x.begin(1);
                sight(x, nut, open | glass, open);
                sight(x, box, 1, 1);
                act(x, TAKE, nut, 0, open == 1 ? 0 : glass == 1 ? 8 : 4);
            }
        }
    }

    private static void ownVeil() {
        due.sentence(0, "that with which one begins is not left, but itself one may be");
        TalePlay x = Worlds.roomAndMan();
        int outer = Worlds.thing(x, BOX, 1, IN, 0);
        int inner = Worlds.thing(x, BOX, 1, IN, outer);
        int knob = Worlds.thing(x, THING, 1, PART, outer);
        int held = Worlds.thing(x, BOX, 1, HELD, 1);
        int inHeld = Worlds.thing(x, THING, 1, IN, held);
        int handle = Worlds.thing(x, THING, 1, PART, held);
        x.begin(1);
        sight(x, outer, 1, 1);
        sight(x, inner, 0, 0);
        sight(x, knob, 0, 0);
        sight(x, held, 1, 1);
        sight(x, inHeld, 0, 0);
        sight(x, handle, 0, 0);
        act(x, UNCLOSE, outer, 0, 0);
        sight(x, inner, 1, 1);
        sight(x, knob, 1, 1);
        act(x, UNCLOSE, held, 0, 0);
        sight(x, inHeld, 1, 1);
        sight(x, handle, 1, 1);
    }

    private static void doorsInView() {
        due.sentence(0, "DOORS of which THE SHELL is a SIDE");
        TalePlay x = Worlds.roomAndMan();
        int far = x.make(ROOM, 0);
        int own = x.make(DOOR, 1);
        int both = x.make(DOOR, 1);
        int away = x.make(DOOR, 1);
        int none = x.make(DOOR, 1);
        int box = Worlds.thing(x, BOX, 1, IN, 0);
        int knob = Worlds.thing(x, THING, 1, PART, own);
        Worlds.flag(x, box, OPEN, 1);
        Worlds.flag(x, box, LIT, 1);
        Worlds.say(x, Worlds.EXIT, 0, own, 0);
        Worlds.say(x, Worlds.EXIT, far, both, 0);
        Worlds.say(x, Worlds.EXIT, 0, both, 9);
        Worlds.say(x, Worlds.EXIT, far, away, 9);
        x.begin(1);
        int[] seen = {own, both};
        int[] unseen = {away, none, knob};
        for (int o : seen) {
            sight(x, o, 1, 1);
        }
        for (int o : unseen) {
            sight(x, o, 0, 0);
        }
        act(x, ENTER, box, 0, 0);
        sight(x, own, 1, 1);
        act(x, CLOSE, box, 0, 0);
        sight(x, own, 0, 0);
        sight(x, both, 0, 0);
        sight(x, box, 1, 1);
    }

    /** One thing that is lit at a time, in a room that is not. */
    private static void lightBy(String what, int kind, int form, int where, int closed, int glass, int light) {
        TalePlay x = Worlds.roomAndMan();
        x.make(ROOM, 0);
        Worlds.flag(x, 0, LIT, 0);
        int box = Worlds.thing(x, BOX, 1, HELD, 1);
        Worlds.flag(x, box, OPEN, 1 - closed);
        Worlds.flag(x, box, GLASS, glass);
        int lamp = where < 0 ? x.make(kind, 1) : Worlds.thing(x, kind, 1, form, where);
        Worlds.flag(x, lamp, LIT, 1);
        x.begin(1);
        due.be("light() by " + what, x.light(), light);
        sight(x, 1, light, light);
        x.unsay(x.count(3) - 1);
        x.begin(1);
        due.be("light() without it", x.light(), 0);
    }

    private static void light() {
        due.sentence(0, "IT IS LIGHT, if THE SHELL is a ROOM that is LIT, or a THING that is LIT is IN VIEW");
        int box = 3;
        lightBy("a thing beside him", THING, IN, 0, 1, 0, 1);
        lightBy("a person", PERSON, IN, 0, 1, 0, 1);
        lightBy("a box that is closed", BOX, IN, 0, 1, 0, 1);
        lightBy("what he holds", THING, HELD, 1, 1, 0, 1);
        lightBy("what he wears", THING, WORN, 1, 1, 0, 1);
        lightBy("a part of him", THING, PART, 1, 1, 0, 1);
        lightBy("what is in a closed box", THING, IN, box, 1, 0, 0);
        lightBy("what is in a closed glass box", THING, IN, box, 1, 1, 1);
        lightBy("what is in an open box", THING, IN, box, 0, 0, 1);
        lightBy("a part of a closed box", THING, PART, box, 1, 0, 0);
        lightBy("what is in another room", THING, IN, 2, 1, 0, 0);
        lightBy("what is nowhere", THING, IN, -1, 1, 0, 0);
        lightBy("a door of no room", DOOR, IN, -1, 1, 0, 0);
        lightBy("another room", ROOM, IN, -1, 1, 0, 0);
        TalePlay x = Worlds.roomAndMan();
        int chest = Worlds.thing(x, BOX, 1, IN, 0);
        Worlds.flag(x, chest, OPEN, 1);
        x.begin(1);
        due.be("light() in a lit room", x.light(), 1);
        act(x, ENTER, chest, 0, 0);
        due.be("light() in an open box", x.light(), 1);
        act(x, CLOSE, chest, 0, 0);
        due.be("light() in a closed box in a lit room", x.light(), 0);
        Worlds.flag(x, chest, LIT, 1);
        x.begin(1);
        act(x, ENTER, chest, 0, 0);
        act(x, CLOSE, chest, 0, 0);
        due.be("light() in a closed box that is lit", x.light(), 1);
    }

    private static void ownThingsAreSeen() {
        due.sentence(0, "and what THE PLAYER himself holds or wears (always)");
        TalePlay x = Worlds.roomAndMan();
        int held = Worlds.thing(x, STAND, 1, HELD, 1);
        int worn = Worlds.thing(x, BOX, 1, WORN, 1);
        int part = Worlds.thing(x, THING, 1, PART, 1);
        int onHeld = Worlds.thing(x, THING, 1, ON, held);
        int inWorn = Worlds.thing(x, THING, 1, IN, worn);
        Worlds.flag(x, 0, LIT, 0);
        Worlds.flag(x, worn, OPEN, 1);
        x.begin(1);
        sight(x, held, 1, 1);
        sight(x, worn, 1, 1);
        sight(x, part, 0, 0);
        sight(x, onHeld, 0, 0);
        sight(x, inWorn, 0, 0);
        sight(x, 1, 0, 0);
        act(x, CLOSE, worn, 0, 0);
        act(x, DROP, held, 0, 0);
        sight(x, held, 0, 0);
    }

    private static void lids() {
        due.sentence(0, "REACHED is what is SEEN, and that would be IN VIEW with THE HAND'S SHELL .. and LIDS of VEILS");
        TalePlay x = Worlds.roomAndMan();
        int pane = Worlds.thing(x, BOX, 1, IN, 0);
        int inPane = Worlds.thing(x, THING, 1, IN, pane);
        int cup = Worlds.thing(x, THING, 1, IN, 0);
        int door = x.make(DOOR, 1);
        int bag = Worlds.thing(x, BOX, 1, HELD, 1);
        int inBag = Worlds.thing(x, THING, 1, IN, bag);
        Worlds.say(x, Worlds.EXIT, 0, door, 0);
        Worlds.flag(x, pane, GLASS, 1);
        Worlds.flag(x, bag, GLASS, 1);
        x.begin(1);
        sight(x, inPane, 1, 0);
        sight(x, inBag, 1, 0);
        sight(x, pane, 1, 1);
        act(x, UNCLOSE, pane, 0, 0);
        act(x, ENTER, pane, 0, 0);
        sight(x, cup, 1, 1);
        sight(x, door, 1, 1);
        act(x, CLOSE, pane, 0, 0);
        sight(x, cup, 1, 0);
        sight(x, door, 1, 0);
        sight(x, pane, 1, 1);
        sight(x, inPane, 1, 1);
        sight(x, bag, 1, 1);
        sight(x, inBag, 1, 0);
        sight(x, 1, 1, 1);
        act(x, UNCLOSE, bag, 0, 0);
        sight(x, inBag, 1, 1);
    }

    /** Every act once, with all that it changes and nothing else. */
    private static void whatActsDo() {
        due.sentence(21, "An ACT: 0 done");
        TalePlay x = Worlds.roomAndMan();
        int far = x.make(ROOM, 0);
        int box = Worlds.thing(x, BOX, 1, IN, 0);
        int stand = Worlds.thing(x, STAND, 1, IN, 0);
        int hat = Worlds.thing(x, THING, 1, IN, 0);
        int key = Worlds.thing(x, THING, 1, HELD, 1);
        Worlds.flag(x, hat, Worlds.GARMENT, 1);
        Worlds.say(x, Worlds.KEY, key, box, 0);
        Worlds.say(x, Worlds.EXIT, 0, far, 9);
        x.begin(1);
        act(x, TAKE, hat, 0, 0);
        lies(x, hat, HELD, 1);
        act(x, WEAR, hat, 0, 0);
        lies(x, hat, WORN, 1);
        act(x, TAKE, hat, 0, 0);
        act(x, PUT_ON, hat, stand, 0);
        lies(x, hat, ON, stand);
        act(x, UNCLOSE, box, 0, 0);
        due.be("now(box, 2)", x.now(box, 2), 1);
        act(x, TAKE, hat, 0, 0);
        act(x, PUT_IN, hat, box, 0);
        lies(x, hat, IN, box);
        act(x, CLOSE, box, 0, 0);
        due.be("now(box, 2)", x.now(box, 2), 0);
        act(x, LOCK, box, key, 0);
        due.be("now(box, 3)", x.now(box, 3), 1);
        act(x, UNLOCK, box, key, 0);
        due.be("now(box, 3)", x.now(box, 3), 0);
        act(x, UNCLOSE, box, 0, 0);
        act(x, ENTER, box, 0, 0);
        lies(x, 1, IN, box);
        act(x, LEAVE, 0, 0, 0);
        lies(x, 1, IN, 0);
        act(x, ENTER, stand, 0, 0);
        lies(x, 1, ON, stand);
        act(x, LEAVE, 0, 0, 0);
        act(x, GO, 9, 0, 0);
        lies(x, 1, IN, far);
        due.be("now(key, 6): it comes along", x.now(key, 6), far);
        act(x, DROP, key, 0, 0);
        lies(x, key, IN, far);
        lies(x, box, IN, 0);
        lies(x, hat, IN, box);
        long digest = x.digest();
        act(x, WAIT, 0, 0, 0);
        due.be("digest() behind WAIT", x.digest(), digest);
        due.be("count(5)", x.count(5), 18);
    }

    private static void takesWhatHeWore() {
        due.sentence(0, "He holds x (also what he wore)");
        TalePlay x = Worlds.roomAndMan();
        int coat = Worlds.thing(x, THING, 99, WORN, 1);
        int cup = Worlds.thing(x, THING, 2, HELD, 1);
        x.begin(1);
        due.sentence(0, "all that he holds himself (not what he wears) is above 100");
        act(x, TAKE, coat, 0, 10);
        act(x, DROP, cup, 0, 0);
        act(x, TAKE, coat, 0, 0);
        lies(x, coat, HELD, 1);
        act(x, TAKE, coat, 0, 6);
        act(x, TAKE, cup, 0, 10);
    }

    private static void liesAsHeDoes() {
        due.sentence(0, "x lies as he does (IN, ON) in, on the same");
        TalePlay x = Worlds.roomAndMan();
        int stand = Worlds.thing(x, STAND, 1, IN, 0);
        int box = Worlds.thing(x, BOX, 1, ON, stand);
        int cup = Worlds.thing(x, THING, 1, HELD, 1);
        int lid = Worlds.thing(x, THING, 1, PART, cup);
        Worlds.flag(x, box, OPEN, 1);
        x.begin(1);
        act(x, ENTER, box, 0, 0);
        act(x, DROP, cup, 0, 0);
        lies(x, cup, IN, box);
        lies(x, lid, PART, cup);
        due.sentence(0, "He lies as that does");
        act(x, LEAVE, 0, 0, 0);
        lies(x, 1, ON, stand);
        act(x, TAKE, cup, 0, 0);
        act(x, DROP, cup, 0, 0);
        lies(x, cup, ON, stand);
        act(x, LEAVE, 0, 0, 0);
        lies(x, 1, IN, 0);
    }

    private static void backOfEachAct() {
        due.sentence(22, "The latest TURN is undone");
        TalePlay x = Worlds.roomAndMan();
        int far = x.make(ROOM, 0);
        int box = Worlds.thing(x, BOX, 1, IN, 0);
        int stand = Worlds.thing(x, STAND, 1, IN, 0);
        int hat = Worlds.thing(x, THING, 1, WORN, 1);
        int key = Worlds.thing(x, THING, 1, HELD, 1);
        Worlds.flag(x, hat, Worlds.GARMENT, 1);
        Worlds.say(x, Worlds.KEY, key, box, 0);
        Worlds.say(x, Worlds.EXIT, 0, far, 9);
        x.begin(1);
        due.be("back() of none", x.back(), STATE);
        int[][] acts = {{TAKE, hat, 0}, {WEAR, hat, 0}, {LOCK, box, key}, {UNLOCK, box, key}, {UNCLOSE, box, 0},
            {PUT_IN, key, box}, {TAKE, key, 0}, {PUT_ON, key, stand}, {TAKE, key, 0}, {CLOSE, box, 0}, {ENTER, stand, 0},
            {DROP, key, 0}, {LEAVE, 0, 0}, {WAIT, 0, 0}, {GO, 9, 0}};
        for (int[] a : acts) {
            long digest = x.digest();
            int turns = x.count(5);
            act(x, a[0], a[1], a[2], 0);
            due.be("back() of " + a[0], x.back(), turns);
            due.be("digest() behind back() of " + a[0], x.digest(), digest);
            act(x, a[0], a[1], a[2], 0);
        }
        due.be("count(5)", x.count(5), acts.length);
    }

    private static void nowWithout() {
        due.sentence(23, "2 OPEN, 3 LOCKED (NONE: it can't be so) .. 6 the ROOM UP from it (itself, of a ROOM); NONE without");
        TalePlay x = Worlds.roomAndMan();
        int far = x.make(ROOM, 0);
        int door = x.make(DOOR, 1);
        int box = x.make(BOX, 1);
        int nut = Worlds.thing(x, THING, 1, IN, box);
        int[][] want = {{NONE, NONE, NONE, NONE, 0, 0, 0}, {IN, 0, NONE, NONE, 1, 1, 0}, {NONE, NONE, NONE, NONE, 0, 0, far},
            {NONE, NONE, 0, 0, 0, 0, NONE}, {NONE, NONE, 0, 0, 0, 0, NONE}, {IN, box, NONE, NONE, 0, 0, NONE}};
        due.be("now(0, 0) without a tale", x.now(0, 0), STATE);
        x.begin(1);
        for (int o = 0; o < want.length; o++) {
            for (int what = 0; what < 7; what++) {
                due.be("now(" + o + ", " + what + ")", x.now(o, what), want[o][what]);
            }
        }
        due.be("the last ones", door + nut, 8);
    }

    private static void turnsWithout() {
        due.sentence(24, "0 the ACT, 1 x, 2 y (0: it has none)");
        TalePlay x = Worlds.roomAndMan();
        int cup = Worlds.thing(x, THING, 1, IN, 0);
        int stand = Worlds.thing(x, STAND, 1, IN, 0);
        int far = x.make(ROOM, 0);
        Worlds.say(x, Worlds.EXIT, 0, far, 9);
        x.begin(1);
        int max = Integer.MAX_VALUE;
        int[][] acts = {{TAKE, cup, max}, {PUT_ON, cup, stand}, {ENTER, stand, -1}, {LEAVE, max, -1}, {WAIT, -1, max},
            {GO, 9, 30}};
        int[][] want = {{TAKE, cup, 0}, {PUT_ON, cup, stand}, {ENTER, stand, 0}, {LEAVE, 0, 0}, {WAIT, 0, 0}, {GO, 9, 0}};
        for (int i = 0; i < acts.length; i++) {
            act(x, acts[i][0], acts[i][1], acts[i][2], 0);
            due.be("turn(i + 1, 0)", x.turn(i + 1, 0), BAD);
            for (int what = 0; what < 3; what++) {
                due.be("turn(" + i + ", " + what + ")", x.turn(i, what), want[i][what]);
            }
        }
        act(x, GO, 9, 0, 2);
        due.be("one that was not done is none", x.turn(acts.length, 0), BAD);
    }

    private static void lightWithoutTale() {
        due.sentence(25, "STATE: no TALE");
        TalePlay x = Worlds.roomAndMan();
        due.be("light()", x.light(), STATE);
        x.begin(1);
        due.be("light()", x.light(), 1);
        x.make(ROOM, 0);
        due.be("light()", x.light(), STATE);
    }

    private static void playIs(TalePlay x, String call, int got, int[]... acts) {
        due.be(call, got, acts.length);
        due.be("count(7) of " + call, x.count(7), acts.length);
        for (int i = 0; i < acts.length; i++) {
            for (int what = 0; what < 3; what++) {
                due.be("sought(" + i + ", " + what + ") of " + call, x.sought(i, what), acts[i][what]);
            }
        }
        due.be("sought behind the end of " + call, x.sought(acts.length, 0), NONE);
        due.be("sought(-1, 0) of " + call, x.sought(-1, 0), NONE);
    }

    private static int[] does(int verb, int a, int b) {
        return new int[] {verb, a, b};
    }

    private static void goalAtOnce() {
        due.sentence(0, "x lies in, on, is held, worn by, part of y, at once, not deeper");
        TalePlay x = Worlds.roomAndMan();
        int stand = Worlds.thing(x, STAND, 1, IN, 0);
        int bowl = Worlds.thing(x, BOX, 1, ON, stand);
        int nut = Worlds.thing(x, THING, 1, IN, bowl);
        int hat = Worlds.thing(x, THING, 1, WORN, 1);
        int pin = Worlds.thing(x, THING, 1, PART, hat);
        int cup = Worlds.thing(x, THING, 1, HELD, 1);
        x.begin(1);
        int[][] there = {{stand, 0}, {bowl, stand}, {nut, bowl}, {hat, 1}, {pin, hat}, {cup, 1}, {1, 0}};
        for (int[] goal : there) {
            playIs(x, "seek(" + goal[0] + ", " + goal[1] + ", 0)", x.seek(goal[0], goal[1], 0));
        }
        int[][] deeper = {{nut, stand}, {nut, 0}, {pin, 1}, {hat, 0}, {0, 0}, {nut, nut}, {0, 1}};
        for (int[] goal : deeper) {
            due.be("seek(" + goal[0] + ", " + goal[1] + ", 0)", x.seek(goal[0], goal[1], 0), NONE);
            due.be("count(7)", x.count(7), NONE);
        }
    }

    private static void presentState() {
        due.sentence(0, "it ends at the first with the goal (the present one, too)");
        TalePlay x = Worlds.roomAndMan();
        int cup = Worlds.thing(x, THING, 1, IN, 0);
        x.begin(1);
        playIs(x, "seek(cup, 1, 300)", x.seek(cup, 1, 300), does(TAKE, cup, 0));
        act(x, TAKE, cup, 0, 0);
        playIs(x, "seek(cup, 1, 300) as it stands", x.seek(cup, 1, 300));
        playIs(x, "seek(cup, 0, 300) as it stands", x.seek(cup, 0, 300), does(DROP, cup, 0));
        x.back();
        playIs(x, "seek(cup, 0, 300) behind back()", x.seek(cup, 0, 300));
        due.be("count(5)", x.count(5), 0);
    }

    private static void orderOfTrying() {
        due.sentence(0, "ACTS 0 to 11 are tried by their numbers, then x, then y, by numbers");
        TalePlay x = Worlds.roomAndMan();
        int far = x.make(ROOM, 0);
        int second = Worlds.thing(x, STAND, 1, IN, 0);
        int first = Worlds.thing(x, STAND, 1, IN, 0);
        int cup = Worlds.thing(x, THING, 1, IN, 0);
        Worlds.say(x, Worlds.EXIT, 0, far, 7);
        Worlds.say(x, Worlds.EXIT, 0, far, 3);
        x.begin(1);
        due.sentence(0, "then x, then y, by numbers");
        playIs(x, "seek(1, far, 300)", x.seek(1, far, 300), does(GO, 3, 0));
        due.sentence(0, "ACTS 0 to 11 are tried by their numbers");
        playIs(x, "seek(cup, far, 300)", x.seek(cup, far, 300), does(TAKE, cup, 0), does(GO, 3, 0), does(DROP, cup, 0));
        due.sentence(0, "in the order in which they came");
        playIs(x, "seek(second, first, 300)", x.seek(second, first, 300), does(TAKE, second, 0),
                does(PUT_ON, second, first));
        playIs(x, "seek(first, second, 300)", x.seek(first, second, 300), does(TAKE, first, 0),
                does(PUT_ON, first, second));
        act(x, TAKE, cup, 0, 0);
        due.sentence(0, "by their numbers, then x, then y");
        act(x, ENTER, second, 0, 0);
        playIs(x, "seek(cup, second, 300)", x.seek(cup, second, 300), does(DROP, cup, 0));
    }

    /** The box is opened and closed again on no play: what differs by OPEN or LOCKED alone is another state. */
    private static void statesByFlags() {
        due.sentence(0, "STATES (places, OPEN, LOCKED; 300 kept at most)");
        TalePlay x = Worlds.roomAndMan();
        int far = x.make(ROOM, 0);
        int door = x.make(DOOR, 1);
        int key = Worlds.thing(x, THING, 1, HELD, 1);
        Worlds.say(x, Worlds.EXIT, 0, door, 0);
        Worlds.say(x, Worlds.EXIT, far, door, 1);
        Worlds.say(x, Worlds.KEY, key, door, 0);
        Worlds.flag(x, door, LOCKED, 1);
        x.begin(1);
        playIs(x, "seek(1, far, 300)", x.seek(1, far, 300), does(UNLOCK, door, key), does(UNCLOSE, door, 0),
                does(GO, 0, 0));
        playIs(x, "seek(key, far, 300)", x.seek(key, far, 300), does(UNLOCK, door, key), does(UNCLOSE, door, 0),
                does(GO, 0, 0), does(DROP, key, 0));
        due.sentence(0, "when n STATES were tried from");
        due.be("n = 4: as it is, key dropped, unlocked, both", x.seek(1, far, 4), NONE);
        due.be("n = 5: the open door, too", x.seek(1, far, 5), 3);
    }

    private static void waitIsNotTried() {
        due.sentence(0, "ACTS 0 to 11 are tried by their numbers .. when none is left");
        TalePlay x = Worlds.roomAndMan();
        x.begin(1);
        due.be("no state but the present one", x.seek(0, 1, 300), NONE);
        due.be("count(7)", x.count(7), NONE);
        TalePlay y = Worlds.roomAndMan();
        int stand = Worlds.thing(y, STAND, 1, IN, 0);
        y.begin(1);
        playIs(y, "seek(1, stand, 1)", y.seek(1, stand, 1), does(ENTER, stand, 0));
        act(y, ENTER, stand, 0, 0);
        playIs(y, "seek(1, 0, 1): LEAVE is the last one", y.seek(1, 0, 1), does(LEAVE, 0, 0));
    }

    /** A search begins anew: what an earlier one kept is none of its states. */
    private static void statesOfEarlierSeeks() {
        due.sentence(0, "the first is the present one .. when none is left");
        TalePlay x = Worlds.roomAndMan();
        int cup = Worlds.thing(x, THING, 1, IN, 0);
        x.begin(1);
        due.be("seek(0, cup, 300): two states", x.seek(0, cup, 300), NONE);
        x.unsay(1);
        x.begin(1);
        due.be("seek(cup, 0, 300): it is nowhere", x.seek(cup, 0, 300), NONE);
        due.be("seek(cup, 1, 300): it is nowhere", x.seek(cup, 1, 300), NONE);
        Worlds.say(x, HELD, cup, 1, 0);
        x.begin(1);
        playIs(x, "seek(cup, 0, 300)", x.seek(cup, 0, 300), does(DROP, cup, 0));
    }

    private static void playStaysTold() {
        due.sentence(0, "THE PLAY that the latest seek() found stays told");
        TalePlay x = Worlds.roomAndMan();
        int cup = Worlds.thing(x, THING, 1, IN, 0);
        x.begin(1);
        due.be("seek(cup, 1, 300)", x.seek(cup, 1, 300), 1);
        int[] told = {1, TAKE, cup, 0};
        for (int step = 0; step < 6; step++) {
            int[] is = {x.count(7), x.sought(0, 0), x.sought(0, 1), x.sought(0, 2)};
            for (int i = 0; i < told.length; i++) {
                due.be("number " + i + " of the play at step " + step, is[i], told[i]);
            }
            switch (step) {
                case 0 -> act(x, TAKE, cup, 0, 0);
                case 1 -> x.back();
                case 2 -> x.standard(0, 0, NONE);
                case 3 -> x.unsay(1);
                case 4 -> x.begin(1);
                default -> x.make(ROOM, 0);
            }
        }
    }

    private static void latestSeek() {
        due.sentence(27, "the PLAY that the latest seek() found .. NONE: none such");
        TalePlay x = Worlds.roomAndMan();
        int cup = Worlds.thing(x, THING, 1, IN, 0);
        due.be("sought(0, 0): there was none", x.sought(0, 0), NONE);
        x.begin(1);
        due.be("seek(cup, 1, 300)", x.seek(cup, 1, 300), 1);
        due.be("seek(cup, 1, 301)", x.seek(cup, 1, 301), BAD);
        due.be("count(7) behind a refused one", x.count(7), 1);
        due.be("seek(0, cup, 300)", x.seek(0, cup, 300), NONE);
        due.be("sought(0, 0): it found none", x.sought(0, 0), NONE);
        due.be("count(7): it found none", x.count(7), NONE);
        due.be("seek(cup, 0, 300)", x.seek(cup, 0, 300), 0);
        due.be("sought(0, 0): it has no acts", x.sought(0, 0), NONE);
        due.be("count(7): it has no acts", x.count(7), 0);
    }
}
