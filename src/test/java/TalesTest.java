/** Promises 20 to 25: tales, acts and their reasons, turns, sight, light. */
public final class TalesTest {
    private static final int BAD = TalePlay.BAD, FULL = TalePlay.FULL, STATE = TalePlay.STATE, NONE = TalePlay.NONE;
    private static final int NOTHING = 1, UNLIKE = 3;
    private static final int ROOM = 0, THING = 1, DOOR = 2, BOX = 3, STAND = 4, PERSON = 5;
    private static final int OPEN = 0, LOCKED = 1, LIT = 2, FIXED = 3, GARMENT = 4, GLASS = 5;
    private static final int IN = 0, ON = 1, HELD = 2, WORN = 3, PART = 4, EXIT = 5, FLAG = 6, KEY = 7;
    private static final int GO = 0, TAKE = 1, DROP = 2, PUT_IN = 3, PUT_ON = 4, UNCLOSE = 5, CLOSE = 6,
            UNLOCK = 7, LOCK = 8, WEAR = 9, ENTER = 10, LEAVE = 11, WAIT = 12;
    private static final Due due = new Due("TalesTest");

    public static void main(String[] args) {
        beginnings();
        endings();
        badActs();
        going();
        taking();
        takingFromOthers();
        bulkOfTaken();
        dropping();
        puttingIn();
        puttingOn();
        openingAndClosing();
        locking();
        openAndLocked();
        wearing();
        entering();
        leaving();
        fullTale();
        goingBack();
        present();
        turns();
        lightAndDark();
        sightThroughBoxes();
        sightFromWithin();
        reachThroughGlass();
        doorsInSight();
        firstObject();
        due.done();
    }

    /** A world with room 0 and person 1 in it. */
    private static TalePlay roomAndMan() {
        TalePlay x = new TalePlay();
        x.make(ROOM, 0);
        x.make(PERSON, 10);
        x.say(IN, 1, 0, 0);
        return x;
    }

    private static int thing(TalePlay x, int kind, int size, int form, int where) {
        int o = x.make(kind, size);
        due.be("the place of " + o, x.say(form, o, where, 0) >= 0 ? 1 : 0, 1);
        return o;
    }

    private static void flag(TalePlay x, int object, int flag, int v) {
        due.be("the flag " + flag + " of " + object, x.say(FLAG, object, flag, v) >= 0 ? 1 : 0, 1);
    }

    private static void act(TalePlay x, int verb, int a, int b, int answer) {
        due.be("act(" + verb + ", " + a + ", " + b + ")", x.act(verb, a, b), answer);
    }

    private static void lies(TalePlay x, int object, int form, int where) {
        due.be("now(" + object + ", 0)", x.now(object, 0), form);
        due.be("now(" + object + ", 1)", x.now(object, 1), where);
    }

    private static void sight(TalePlay x, int object, int seen, int reached) {
        due.be("now(" + object + ", 4)", x.now(object, 4), seen);
        due.be("now(" + object + ", 5)", x.now(object, 5), reached);
    }

    private static void beginnings() {
        TalePlay x = new TalePlay();
        due.be("begin(0) of none", x.begin(0), BAD);
        int man = x.make(PERSON, 1);
        due.be("begin(-1)", x.begin(-1), BAD);
        due.be("begin(1)", x.begin(1), BAD);
        due.find("begin(man)", x, x.begin(man), NOTHING);
        int room = x.make(ROOM, 0);
        int box = x.make(BOX, 1);
        int stand = x.make(STAND, 1);
        due.find("begin(room)", x, x.begin(room), UNLIKE);
        due.find("begin(box)", x, x.begin(box), UNLIKE);
        x.say(IN, man, box, 0);
        x.say(ON, box, stand, 0);
        due.find("begin(man) in a box that is nowhere", x, x.begin(man), NOTHING);
        due.be("count(6)", x.count(6), NONE);
        x.say(IN, stand, room, 0);
        due.be("begin(man)", x.begin(man), room);
        due.be("count(6)", x.count(6), man);
        int hero = x.kind(PERSON);
        due.be("count(6): kind() does not end it", x.count(6), man);
        int other = x.make(hero, 1);
        due.be("count(6): make() ends it", x.count(6), NONE);
        x.say(IN, other, room, 0);
        due.be("begin(man)", x.begin(man), room);
        act(x, WAIT, 0, 0, 0);
        due.be("begin(other)", x.begin(other), room);
        due.be("count(5)", x.count(5), 0);
        due.be("count(6)", x.count(6), other);
        act(x, WAIT, 0, 0, 0);
        due.find("begin(room)", x, x.begin(room), UNLIKE);
        due.be("count(6): what is refused does not begin", x.count(6), other);
        due.be("count(5)", x.count(5), 1);
    }

    private static void stateOnly(TalePlay x) {
        due.be("act(WAIT)", x.act(WAIT, 0, 0), STATE);
        due.be("back()", x.back(), STATE);
        due.be("now(0, 0)", x.now(0, 0), STATE);
        due.be("turn(0, 0)", x.turn(0, 0), STATE);
        due.be("light()", x.light(), STATE);
        due.be("seek(0, 0, 0)", x.seek(0, 0, 0), STATE);
        due.be("count(5)", x.count(5), 0);
        due.be("count(6)", x.count(6), NONE);
        due.be("act(13, ..): BAD ahead of STATE", x.act(13, 0, 0), BAD);
        due.be("now(9, 0): BAD ahead of STATE", x.now(9, 0), BAD);
        due.be("turn(-1, 0): BAD ahead of STATE", x.turn(-1, 0), BAD);
        due.be("turn(0, 3): BAD ahead of STATE", x.turn(0, 3), BAD);
        due.be("seek(0, 0, 301): BAD ahead of STATE", x.seek(0, 0, 301), BAD);
    }

    private static TalePlay begun() {
        TalePlay x = roomAndMan();
        x.begin(1);
        act(x, WAIT, 0, 0, 0);
        return x;
    }

    private static void endings() {
        stateOnly(roomAndMan());
        TalePlay x = begun();
        x.standard(0, 0, NONE);
        stateOnly(x);
        x = begun();
        x.make(0, 0);
        stateOnly(x);
        x = begun();
        x.say(FLAG, 0, LIT, 1);
        stateOnly(x);
        x = begun();
        x.unsay(0);
        stateOnly(x);
        x = begun();
        x.standard(0, 0, 5);
        x.make(9, 0);
        x.say(IN, 0, 0, 0);
        x.say(IN, 1, 0, 0);
        x.unsay(7);
        x.kind(0);
        x.bulk(1);
        x.line(0, 0, 3);
        x.cast(1, 1);
        x.seek(1, 0, 5);
        due.be("count(5): nothing was done", x.count(5), 1);
    }

    private static void badActs() {
        TalePlay x = roomAndMan();
        x.begin(1);
        act(x, -1, 0, 0, BAD);
        act(x, 13, 0, 0, BAD);
        act(x, GO, 10, 0, BAD);
        act(x, GO, -1, 0, BAD);
        act(x, GO, 9, 77, 2);
        for (int verb = TAKE; verb <= ENTER; verb++) {
            act(x, verb, 2, 0, BAD);
            act(x, verb, -1, 0, BAD);
            boolean two = verb == PUT_IN || verb == PUT_ON || verb == UNLOCK || verb == LOCK;
            due.be("act(" + verb + ", 0, 2) is BAD", x.act(verb, 0, 2) == BAD ? 1 : 0, two ? 1 : 0);
            due.be("act(" + verb + ", 0, -1) is BAD", x.act(verb, 0, -1) == BAD ? 1 : 0, two ? 1 : 0);
        }
        act(x, LEAVE, -1, 99, 1);
        act(x, WAIT, -1, 99, 0);
        due.be("turn(0, 1)", x.turn(0, 1), 0);
        due.be("turn(0, 2)", x.turn(0, 2), 0);
    }

    private static void going() {
        TalePlay x = roomAndMan();
        int hall = x.make(ROOM, 0);
        int yard = x.make(ROOM, 0);
        int door = x.make(DOOR, 5);
        int gate = x.make(DOOR, 5);
        int stand = thing(x, STAND, 1, IN, 0);
        x.say(EXIT, 0, hall, 2);
        x.say(EXIT, 0, door, 4);
        x.say(EXIT, yard, door, 6);
        x.say(EXIT, 0, gate, 8);
        flag(x, gate, OPEN, 1);
        x.begin(1);
        act(x, GO, 0, 0, 2);
        act(x, GO, 8, 0, 2);
        act(x, GO, 4, 0, 3);
        act(x, GO, 2, 0, 0);
        lies(x, 1, IN, hall);
        act(x, GO, 2, 0, 2);
        act(x, GO, 3, 0, 0);
        lies(x, 1, IN, 0);
        act(x, UNCLOSE, door, 0, 0);
        act(x, GO, 4, 0, 0);
        lies(x, 1, IN, yard);
        act(x, CLOSE, door, 0, 0);
        act(x, GO, 6, 0, 3);
        act(x, UNCLOSE, door, 0, 0);
        act(x, GO, 6, 0, 0);
        act(x, ENTER, stand, 0, 0);
        act(x, GO, 2, 0, 1);
        act(x, GO, 0, 0, 1);
        TalePlay dark = roomAndMan();
        int cave = dark.make(ROOM, 0);
        dark.say(EXIT, 0, cave, 2);
        flag(dark, 0, LIT, 0);
        dark.begin(1);
        act(dark, GO, 2, 0, 0);
    }

    private static void taking() {
        TalePlay x = roomAndMan();
        int far = x.make(ROOM, 0);
        int cup = thing(x, THING, 5, IN, 0);
        int away = thing(x, THING, 5, IN, far);
        int rock = thing(x, THING, 5, IN, 0);
        int knob = thing(x, THING, 5, PART, cup);
        int cart = thing(x, BOX, 5, IN, 0);
        int hat = thing(x, THING, 5, WORN, 1);
        int door = x.make(DOOR, 5);
        int nowhere = x.make(THING, 1);
        int stone = thing(x, THING, 5, HELD, 1);
        flag(x, rock, FIXED, 1);
        flag(x, stone, FIXED, 1);
        flag(x, cart, OPEN, 1);
        x.say(EXIT, 0, door, 0);
        x.begin(1);
        act(x, TAKE, away, 0, 4);
        act(x, TAKE, nowhere, 0, 4);
        act(x, TAKE, 0, 0, 4);
        act(x, TAKE, 1, 0, 5);
        act(x, TAKE, stone, 0, 6);
        act(x, TAKE, rock, 0, 7);
        act(x, TAKE, knob, 0, 7);
        act(x, TAKE, door, 0, 7);
        act(x, TAKE, cup, 0, 0);
        lies(x, cup, HELD, 1);
        act(x, TAKE, cup, 0, 6);
        act(x, TAKE, hat, 0, 0);
        lies(x, hat, HELD, 1);
        act(x, ENTER, cart, 0, 0);
        act(x, TAKE, cart, 0, 5);
        act(x, TAKE, rock, 0, 7);
        act(x, CLOSE, cart, 0, 0);
        act(x, TAKE, rock, 0, 4);
        act(x, TAKE, cart, 0, 4);
        act(x, TAKE, 1, 0, 4);
        act(x, TAKE, cup, 0, 6);
    }

    private static void takingFromOthers() {
        TalePlay x = roomAndMan();
        int other = thing(x, PERSON, 5, IN, 0);
        int cup = thing(x, THING, 5, HELD, other);
        int bag = thing(x, BOX, 5, WORN, other);
        int nut = thing(x, THING, 5, IN, bag);
        int glass = thing(x, BOX, 5, HELD, other);
        int pea = thing(x, THING, 5, IN, glass);
        flag(x, bag, OPEN, 1);
        flag(x, glass, GLASS, 1);
        x.begin(1);
        act(x, TAKE, other, 0, 7);
        act(x, TAKE, cup, 0, 9);
        act(x, TAKE, bag, 0, 9);
        act(x, TAKE, nut, 0, 9);
        act(x, TAKE, pea, 0, 8);
        act(x, ENTER, bag, 0, 0);
        lies(x, 1, IN, bag);
        act(x, TAKE, nut, 0, 9);
        act(x, LEAVE, 0, 0, 21);
    }

    private static void bulkOfTaken() {
        TalePlay x = roomAndMan();
        int heavy = thing(x, THING, 60, IN, 0);
        int half = thing(x, THING, 40, IN, 0);
        int slight = thing(x, THING, 1, IN, 0);
        int worn = thing(x, THING, 60, WORN, 1);
        int box = thing(x, BOX, 30, IN, 0);
        int inner = thing(x, THING, 35, IN, box);
        int none = thing(x, THING, 0, IN, 0);
        flag(x, box, OPEN, 1);
        x.begin(1);
        act(x, TAKE, heavy, 0, 0);
        act(x, TAKE, box, 0, 10);
        act(x, TAKE, half, 0, 0);
        act(x, TAKE, slight, 0, 10);
        act(x, TAKE, none, 0, 0);
        act(x, DROP, heavy, 0, 0);
        act(x, TAKE, worn, 0, 0);
        act(x, DROP, worn, 0, 0);
        act(x, DROP, half, 0, 0);
        act(x, TAKE, box, 0, 0);
        act(x, TAKE, inner, 0, 0);
        lies(x, inner, HELD, 1);
        act(x, PUT_IN, inner, box, 0);
        act(x, TAKE, slight, 0, 0);
        act(x, TAKE, inner, 0, 10);
    }

    private static void dropping() {
        TalePlay x = roomAndMan();
        int cup = thing(x, THING, 5, IN, 0);
        int hat = thing(x, THING, 5, WORN, 1);
        int stand = thing(x, STAND, 5, IN, 0);
        int box = thing(x, BOX, 5, IN, 0);
        int pen = thing(x, THING, 5, HELD, 1);
        flag(x, box, OPEN, 1);
        x.begin(1);
        act(x, DROP, cup, 0, 11);
        act(x, DROP, hat, 0, 11);
        act(x, DROP, 1, 0, 11);
        act(x, DROP, 0, 0, 11);
        act(x, DROP, pen, 0, 0);
        lies(x, pen, IN, 0);
        act(x, TAKE, pen, 0, 0);
        act(x, ENTER, stand, 0, 0);
        act(x, DROP, pen, 0, 0);
        lies(x, pen, ON, stand);
        act(x, TAKE, pen, 0, 0);
        act(x, ENTER, box, 0, 0);
        act(x, DROP, pen, 0, 0);
        lies(x, pen, IN, box);
    }

    private static void puttingIn() {
        TalePlay x = roomAndMan();
        int far = x.make(ROOM, 0);
        int pen = thing(x, THING, 5, HELD, 1);
        int cup = thing(x, THING, 5, IN, 0);
        int box = thing(x, BOX, 5, IN, 0);
        int shut = thing(x, BOX, 5, HELD, 1);
        int away = thing(x, BOX, 5, IN, far);
        int stand = thing(x, STAND, 5, IN, 0);
        int bag = thing(x, BOX, 5, HELD, 1);
        int purse = thing(x, BOX, 5, IN, bag);
        int pane = thing(x, BOX, 5, IN, 0);
        int vase = thing(x, BOX, 5, IN, pane);
        int[] opened = {box, away, bag, purse, vase};
        for (int o : opened) {
            flag(x, o, OPEN, 1);
        }
        flag(x, pane, GLASS, 1);
        x.begin(1);
        act(x, PUT_IN, cup, away, 11);
        act(x, PUT_IN, pen, away, 4);
        act(x, PUT_IN, pen, 0, 4);
        act(x, PUT_IN, pen, stand, 12);
        act(x, PUT_IN, pen, 1, 12);
        act(x, PUT_IN, pen, pen, 12);
        act(x, PUT_IN, shut, shut, 13);
        act(x, PUT_IN, bag, purse, 13);
        act(x, PUT_IN, pen, shut, 3);
        act(x, PUT_IN, pen, pane, 3);
        act(x, PUT_IN, pen, vase, 8);
        act(x, PUT_IN, pen, purse, 0);
        lies(x, pen, IN, purse);
        act(x, PUT_IN, bag, box, 0);
        lies(x, bag, IN, box);
        for (int i = 0; i < 7; i++) {
            thing(x, THING, 1, IN, box);
        }
        int last = thing(x, THING, 1, HELD, 1);
        int over = thing(x, THING, 1, HELD, 1);
        x.begin(1);
        act(x, PUT_IN, last, box, 0);
        act(x, PUT_IN, over, box, 14);
        act(x, PUT_IN, over, bag, 0);
        act(x, CLOSE, box, 0, 0);
        act(x, TAKE, over, 0, 0);
        act(x, PUT_IN, over, box, 3);
    }

    private static void puttingOn() {
        TalePlay x = roomAndMan();
        int far = x.make(ROOM, 0);
        int pen = thing(x, THING, 5, HELD, 1);
        int cup = thing(x, THING, 5, IN, 0);
        int stand = thing(x, STAND, 5, IN, 0);
        int away = thing(x, STAND, 5, IN, far);
        int box = thing(x, BOX, 5, IN, 0);
        int tray = thing(x, STAND, 5, HELD, 1);
        int saucer = thing(x, STAND, 5, ON, tray);
        int pane = thing(x, BOX, 5, IN, 0);
        int shelf = thing(x, STAND, 5, IN, pane);
        flag(x, pane, GLASS, 1);
        x.begin(1);
        act(x, PUT_ON, cup, away, 11);
        act(x, PUT_ON, pen, away, 4);
        act(x, PUT_ON, pen, box, 12);
        act(x, PUT_ON, tray, tray, 13);
        act(x, PUT_ON, tray, saucer, 13);
        act(x, PUT_ON, pen, shelf, 8);
        act(x, PUT_ON, pen, saucer, 0);
        lies(x, pen, ON, saucer);
        act(x, PUT_ON, tray, stand, 0);
        lies(x, tray, ON, stand);
        for (int i = 0; i < 8; i++) {
            thing(x, THING, 1, ON, stand);
        }
        int over = thing(x, THING, 1, HELD, 1);
        x.begin(1);
        act(x, PUT_ON, over, stand, 14);
        act(x, ENTER, stand, 0, 0);
        act(x, DROP, over, 0, 0);
        lies(x, over, ON, stand);
        act(x, TAKE, over, 0, 0);
        act(x, PUT_ON, over, saucer, 0);
    }

    private static void openingAndClosing() {
        TalePlay x = roomAndMan();
        int far = x.make(ROOM, 0);
        int box = thing(x, BOX, 5, IN, 0);
        int away = thing(x, BOX, 5, IN, far);
        int cup = thing(x, THING, 5, IN, 0);
        int door = x.make(DOOR, 5);
        int safe = thing(x, BOX, 5, IN, 0);
        int pane = thing(x, BOX, 5, IN, 0);
        int inner = thing(x, BOX, 5, IN, pane);
        int vase = thing(x, BOX, 5, IN, pane);
        int tin = thing(x, BOX, 5, IN, pane);
        x.say(EXIT, 0, door, 0);
        flag(x, safe, LOCKED, 1);
        flag(x, pane, GLASS, 1);
        flag(x, vase, OPEN, 1);
        flag(x, tin, LOCKED, 1);
        x.begin(1);
        act(x, UNCLOSE, away, 0, 4);
        act(x, CLOSE, away, 0, 4);
        act(x, UNCLOSE, cup, 0, 12);
        act(x, CLOSE, cup, 0, 12);
        act(x, UNCLOSE, 1, 0, 12);
        act(x, UNCLOSE, safe, 0, 16);
        act(x, CLOSE, box, 0, 3);
        act(x, UNCLOSE, box, 0, 0);
        due.be("now(box, 2)", x.now(box, 2), 1);
        act(x, UNCLOSE, box, 0, 15);
        act(x, CLOSE, box, 0, 0);
        due.be("now(box, 2)", x.now(box, 2), 0);
        act(x, UNCLOSE, door, 0, 0);
        act(x, CLOSE, door, 0, 0);
        act(x, UNCLOSE, inner, 0, 8);
        act(x, CLOSE, inner, 0, 3);
        act(x, UNCLOSE, vase, 0, 15);
        act(x, CLOSE, vase, 0, 8);
        act(x, UNCLOSE, tin, 0, 16);
        act(x, UNCLOSE, pane, 0, 0);
        act(x, UNCLOSE, inner, 0, 0);
        act(x, CLOSE, vase, 0, 0);
        due.be("flag(box, OPEN) as said", x.flag(box, OPEN), 0);
    }

    private static void locking() {
        TalePlay x = roomAndMan();
        int far = x.make(ROOM, 0);
        int box = thing(x, BOX, 5, IN, 0);
        int key = thing(x, THING, 1, IN, 0);
        int wrong = thing(x, THING, 1, HELD, 1);
        int away = thing(x, BOX, 5, IN, far);
        int door = x.make(DOOR, 5);
        int keyless = thing(x, BOX, 5, IN, 0);
        int pane = thing(x, BOX, 5, IN, 0);
        int inner = thing(x, BOX, 5, IN, pane);
        x.say(EXIT, 0, door, 0);
        x.say(KEY, key, box, 0);
        x.say(KEY, key, door, 0);
        x.say(KEY, wrong, inner, 0);
        flag(x, pane, GLASS, 1);
        flag(x, keyless, LOCKED, 1);
        x.begin(1);
        act(x, UNLOCK, away, key, 4);
        act(x, LOCK, away, key, 4);
        act(x, UNLOCK, key, key, 12);
        act(x, LOCK, key, key, 12);
        act(x, UNLOCK, box, key, 17);
        act(x, LOCK, box, key, 11);
        act(x, LOCK, box, wrong, 18);
        act(x, TAKE, key, 0, 0);
        act(x, LOCK, box, key, 0);
        due.be("now(box, 3)", x.now(box, 3), 1);
        act(x, LOCK, box, wrong, 16);
        act(x, UNLOCK, box, wrong, 18);
        act(x, UNLOCK, box, keyless, 11);
        act(x, UNLOCK, box, key, 0);
        due.be("now(box, 3)", x.now(box, 3), 0);
        act(x, UNCLOSE, box, 0, 0);
        act(x, LOCK, box, key, 15);
        act(x, LOCK, door, key, 0);
        act(x, UNCLOSE, door, 0, 16);
        act(x, UNLOCK, door, key, 0);
        act(x, UNLOCK, keyless, key, 18);
        act(x, LOCK, inner, wrong, 8);
        act(x, UNLOCK, inner, wrong, 17);
        act(x, DROP, key, 0, 0);
        act(x, LOCK, door, key, 11);
        act(x, UNCLOSE, pane, 0, 0);
        act(x, LOCK, inner, wrong, 0);
        act(x, CLOSE, pane, 0, 0);
        act(x, UNLOCK, inner, wrong, 8);
        act(x, UNLOCK, inner, key, 8);
        due.be("flag(box, LOCKED) as said", x.flag(box, LOCKED), 0);
    }

    /** Defaults may make a shutter both open and locked. */
    private static void openAndLocked() {
        TalePlay x = roomAndMan();
        int box = thing(x, BOX, 5, IN, 0);
        int key = thing(x, THING, 1, HELD, 1);
        x.say(KEY, key, box, 0);
        x.standard(BOX, OPEN, 1);
        x.standard(BOX, LOCKED, 1);
        x.begin(1);
        due.be("now(box, 2)", x.now(box, 2), 1);
        due.be("now(box, 3)", x.now(box, 3), 1);
        act(x, UNCLOSE, box, 0, 15);
        act(x, LOCK, box, key, 16);
        act(x, CLOSE, box, 0, 0);
        act(x, UNCLOSE, box, 0, 16);
        act(x, UNLOCK, box, key, 0);
        act(x, UNCLOSE, box, 0, 0);
    }

    private static void wearing() {
        TalePlay x = roomAndMan();
        int hat = thing(x, THING, 5, IN, 0);
        int pen = thing(x, THING, 5, HELD, 1);
        int sock = thing(x, THING, 5, WORN, 1);
        int box = thing(x, BOX, 5, HELD, 1);
        flag(x, hat, GARMENT, 1);
        flag(x, sock, GARMENT, 1);
        x.standard(BOX, GARMENT, 1);
        x.begin(1);
        act(x, WEAR, hat, 0, 11);
        act(x, WEAR, sock, 0, 11);
        act(x, WEAR, pen, 0, 19);
        act(x, TAKE, hat, 0, 0);
        act(x, WEAR, hat, 0, 0);
        lies(x, hat, WORN, 1);
        act(x, WEAR, hat, 0, 11);
        act(x, DROP, hat, 0, 11);
        act(x, TAKE, hat, 0, 0);
        act(x, DROP, hat, 0, 0);
        act(x, WEAR, box, 0, 0);
        act(x, UNCLOSE, box, 0, 0);
        lies(x, box, WORN, 1);
    }

    private static void entering() {
        TalePlay x = roomAndMan();
        int far = x.make(ROOM, 0);
        int box = thing(x, BOX, 5, IN, 0);
        int stand = thing(x, STAND, 5, IN, 0);
        int away = thing(x, STAND, 5, IN, far);
        int cup = thing(x, THING, 5, IN, 0);
        int bag = thing(x, BOX, 5, HELD, 1);
        int purse = thing(x, BOX, 5, IN, bag);
        int pane = thing(x, BOX, 5, IN, 0);
        int shelf = thing(x, STAND, 5, IN, pane);
        int door = x.make(DOOR, 1);
        flag(x, bag, OPEN, 1);
        flag(x, purse, OPEN, 1);
        flag(x, pane, GLASS, 1);
        x.say(EXIT, 0, door, 0);
        x.begin(1);
        act(x, ENTER, away, 0, 4);
        act(x, ENTER, cup, 0, 12);
        act(x, ENTER, 1, 0, 12);
        act(x, ENTER, door, 0, 12);
        act(x, ENTER, 0, 0, 4);
        act(x, ENTER, bag, 0, 13);
        act(x, ENTER, purse, 0, 13);
        act(x, ENTER, box, 0, 3);
        act(x, ENTER, pane, 0, 3);
        act(x, ENTER, shelf, 0, 8);
        act(x, ENTER, stand, 0, 0);
        lies(x, 1, ON, stand);
        act(x, ENTER, stand, 0, 20);
        act(x, UNCLOSE, box, 0, 0);
        act(x, ENTER, box, 0, 0);
        lies(x, 1, IN, box);
        act(x, ENTER, box, 0, 20);
        act(x, CLOSE, box, 0, 0);
        due.be("now(1, 6)", x.now(1, 6), 0);
        act(x, ENTER, box, 0, 4);
        due.be("back()", x.back(), 3);
        act(x, ENTER, stand, 0, 0);
        lies(x, 1, ON, stand);
        TalePlay lit = roomAndMan();
        int lamp = thing(lit, BOX, 5, IN, 0);
        flag(lit, lamp, LIT, 1);
        flag(lit, lamp, OPEN, 1);
        lit.begin(1);
        act(lit, ENTER, lamp, 0, 0);
        act(lit, CLOSE, lamp, 0, 0);
        act(lit, ENTER, lamp, 0, 3);
    }

    private static void leaving() {
        TalePlay x = roomAndMan();
        int stand = thing(x, STAND, 5, IN, 0);
        int box = thing(x, BOX, 5, ON, stand);
        int bench = thing(x, STAND, 5, PART, box);
        x.standard(BOX, OPEN, 1);
        x.begin(1);
        act(x, LEAVE, 0, 0, 1);
        act(x, ENTER, box, 0, 0);
        act(x, LEAVE, 0, 0, 0);
        lies(x, 1, ON, stand);
        act(x, LEAVE, 0, 0, 0);
        lies(x, 1, IN, 0);
        act(x, LEAVE, 0, 0, 1);
        act(x, ENTER, bench, 0, 0);
        act(x, LEAVE, 0, 0, 21);
        act(x, ENTER, box, 0, 0);
        act(x, LEAVE, 0, 0, 0);
        act(x, ENTER, box, 0, 0);
        x.standard(BOX, GLASS, 1);
        x.begin(1);
        act(x, ENTER, box, 0, 0);
        act(x, CLOSE, box, 0, 0);
        act(x, LEAVE, 0, 0, 3);
        act(x, UNCLOSE, box, 0, 0);
        act(x, LEAVE, 0, 0, 0);
    }

    private static void fullTale() {
        TalePlay x = roomAndMan();
        x.begin(1);
        for (int i = 0; i < 100; i++) {
            act(x, WAIT, 0, 0, 0);
        }
        due.be("count(5)", x.count(5), 100);
        act(x, WAIT, 0, 0, FULL);
        act(x, LEAVE, 0, 0, FULL);
        act(x, GO, 10, 0, BAD);
        due.be("seek of 100 turns", x.seek(1, 0, 10), 0);
        due.be("turn(99, 0)", x.turn(99, 0), WAIT);
        due.be("turn(100, 0)", x.turn(100, 0), BAD);
        due.be("back()", x.back(), 99);
        act(x, LEAVE, 0, 0, 1);
        act(x, WAIT, 0, 0, 0);
        act(x, WAIT, 0, 0, FULL);
    }

    private static void goingBack() {
        TalePlay x = roomAndMan();
        int hall = x.make(ROOM, 0);
        int hat = thing(x, THING, 5, IN, 0);
        int box = thing(x, BOX, 5, IN, 0);
        int stand = thing(x, STAND, 5, IN, 0);
        int key = thing(x, THING, 1, HELD, 1);
        x.say(EXIT, 0, hall, 0);
        x.say(KEY, key, box, 0);
        flag(x, hat, GARMENT, 1);
        x.begin(1);
        due.be("back() of none", x.back(), STATE);
        int[][] acts = {{TAKE, hat, 0}, {WEAR, hat, 0}, {TAKE, hat, 0}, {UNCLOSE, box, 0}, {PUT_IN, hat, box},
            {CLOSE, box, 0}, {LOCK, box, key}, {UNLOCK, box, key}, {PUT_ON, key, stand}, {ENTER, stand, 0},
            {LEAVE, 0, 0}, {TAKE, key, 0}, {WAIT, 0, 0}, {GO, 0, 0}, {DROP, key, 0}, {GO, 1, 0}};
        long[] digests = new long[acts.length + 1];
        digests[0] = x.digest();
        for (int i = 0; i < acts.length; i++) {
            act(x, acts[i][0], acts[i][1], acts[i][2], 0);
            digests[i + 1] = x.digest();
        }
        act(x, TAKE, key, 0, 4);
        for (int i = acts.length - 1; i >= 0; i--) {
            due.be("back()", x.back(), i);
            due.be("digest() behind back() to " + i, x.digest(), digests[i]);
            due.be("turn(i, 0) is none", x.turn(i, 0), BAD);
        }
        due.be("back() of none", x.back(), STATE);
        act(x, TAKE, hat, 0, 0);
        due.be("turn(0, 1)", x.turn(0, 1), hat);
    }

    private static void present() {
        TalePlay x = roomAndMan();
        int stand = thing(x, STAND, 5, IN, 0);
        int box = thing(x, BOX, 5, ON, stand);
        int cup = thing(x, THING, 5, IN, box);
        int door = x.make(DOOR, 5);
        int knob = thing(x, THING, 5, PART, door);
        int hat = thing(x, THING, 5, WORN, 1);
        int nowhere = x.make(THING, 5);
        flag(x, door, LOCKED, 1);
        x.say(EXIT, 0, door, 0);
        x.begin(1);
        int[][] want = {
            {NONE, NONE, NONE, NONE, 0, 0, 0},
            {IN, 0, NONE, NONE, 1, 1, 0},
            {IN, 0, NONE, NONE, 1, 1, 0},
            {ON, stand, 0, 0, 1, 1, 0},
            {IN, box, NONE, NONE, 0, 0, 0},
            {NONE, NONE, 0, 1, 1, 1, NONE},
            {PART, door, NONE, NONE, 0, 0, NONE},
            {WORN, 1, NONE, NONE, 1, 1, 0},
            {NONE, NONE, NONE, NONE, 0, 0, NONE}};
        for (int o = 0; o < want.length; o++) {
            for (int what = 0; what < 7; what++) {
                due.be("now(" + o + ", " + what + ")", x.now(o, what), want[o][what]);
            }
        }
        due.be("the last of them", nowhere, want.length - 1);
        due.be("now(9, 0)", x.now(9, 0), BAD);
        due.be("now(-1, 0)", x.now(-1, 0), BAD);
        due.be("now(0, 7)", x.now(0, 7), BAD);
        due.be("now(0, -1)", x.now(0, -1), BAD);
        act(x, UNCLOSE, box, 0, 0);
        sight(x, cup, 1, 1);
        act(x, TAKE, cup, 0, 0);
        lies(x, cup, HELD, 1);
        act(x, TAKE, hat, 0, 0);
        lies(x, hat, HELD, 1);
        due.be("now(knob, 6)", x.now(knob, 6), NONE);
    }

    private static void turns() {
        TalePlay x = roomAndMan();
        int hall = x.make(ROOM, 0);
        int cup = thing(x, THING, 5, IN, 0);
        int box = thing(x, BOX, 5, IN, 0);
        flag(x, box, OPEN, 1);
        x.say(EXIT, 0, hall, 8);
        x.begin(1);
        act(x, TAKE, cup, 29, 0);
        act(x, PUT_IN, cup, cup, 12);
        act(x, PUT_IN, cup, box, 0);
        act(x, ENTER, box, 7, 0);
        act(x, LEAVE, 3, 3, 0);
        act(x, GO, 8, 5, 0);
        act(x, WAIT, 4, 4, 0);
        int[][] want = {{TAKE, cup, 0}, {PUT_IN, cup, box}, {ENTER, box, 0}, {LEAVE, 0, 0}, {GO, 8, 0}, {WAIT, 0, 0}};
        for (int i = 0; i < want.length; i++) {
            for (int what = 0; what < 3; what++) {
                due.be("turn(" + i + ", " + what + ")", x.turn(i, what), want[i][what]);
            }
        }
        due.be("count(5)", x.count(5), 6);
        due.be("turn(6, 0)", x.turn(6, 0), BAD);
        due.be("turn(-1, 0)", x.turn(-1, 0), BAD);
        due.be("turn(0, 3)", x.turn(0, 3), BAD);
        due.be("turn(0, -1)", x.turn(0, -1), BAD);
    }

    private static void lightAndDark() {
        TalePlay x = roomAndMan();
        int lamp = thing(x, THING, 1, IN, 0);
        int box = thing(x, BOX, 1, IN, 0);
        int pen = thing(x, THING, 1, HELD, 1);
        int hat = thing(x, THING, 1, WORN, 1);
        int arm = thing(x, THING, 1, PART, 1);
        flag(x, box, OPEN, 1);
        flag(x, 0, LIT, 0);
        x.begin(1);
        due.be("light() in the dark", x.light(), 0);
        sight(x, 1, 0, 0);
        sight(x, lamp, 0, 0);
        sight(x, pen, 1, 1);
        sight(x, hat, 1, 1);
        sight(x, arm, 0, 0);
        act(x, TAKE, lamp, 0, 4);
        act(x, PUT_IN, pen, box, 4);
        act(x, DROP, pen, 0, 0);
        sight(x, pen, 0, 0);
        flag(x, lamp, LIT, 1);
        x.begin(1);
        due.be("light() by the lamp", x.light(), 1);
        sight(x, 1, 1, 1);
        sight(x, arm, 1, 1);
        act(x, TAKE, lamp, 0, 0);
        due.be("light() by the lamp in hand", x.light(), 1);
        act(x, PUT_IN, lamp, box, 0);
        due.be("light() by the lamp in the open box", x.light(), 1);
        act(x, CLOSE, box, 0, 0);
        due.be("light() by the lamp in the closed box", x.light(), 0);
        act(x, UNCLOSE, box, 0, 4);
        flag(x, box, GLASS, 1);
        x.begin(1);
        act(x, TAKE, lamp, 0, 0);
        act(x, PUT_IN, lamp, box, 0);
        act(x, CLOSE, box, 0, 0);
        due.be("light() by the lamp in the glass box", x.light(), 1);
        TalePlay own = roomAndMan();
        flag(own, 0, LIT, 0);
        flag(own, 1, LIT, 1);
        own.begin(1);
        due.be("light() by himself", own.light(), 1);
        TalePlay door = roomAndMan();
        int gate = door.make(DOOR, 1);
        flag(door, 0, LIT, 0);
        flag(door, gate, LIT, 1);
        door.begin(1);
        due.be("light() by a door elsewhere", door.light(), 0);
        door.say(EXIT, 0, gate, 0);
        door.begin(1);
        due.be("light() by a door", door.light(), 1);
        TalePlay rooms = roomAndMan();
        rooms.make(ROOM, 0);
        flag(rooms, 0, LIT, 0);
        rooms.begin(1);
        due.be("light() not by another room", rooms.light(), 0);
    }

    private static void sightThroughBoxes() {
        TalePlay x = roomAndMan();
        int stand = thing(x, STAND, 1, IN, 0);
        int other = thing(x, PERSON, 1, ON, stand);
        int bag = thing(x, BOX, 1, HELD, other);
        int nut = thing(x, THING, 1, IN, bag);
        int knob = thing(x, THING, 1, PART, bag);
        int rim = thing(x, THING, 1, PART, nut);
        int far = x.make(ROOM, 0);
        int away = thing(x, THING, 1, IN, far);
        x.begin(1);
        sight(x, stand, 1, 1);
        sight(x, other, 1, 1);
        sight(x, bag, 1, 1);
        sight(x, nut, 0, 0);
        sight(x, knob, 0, 0);
        sight(x, rim, 0, 0);
        sight(x, away, 0, 0);
        sight(x, far, 0, 0);
        sight(x, 0, 0, 0);
        act(x, UNCLOSE, bag, 0, 0);
        sight(x, nut, 1, 1);
        sight(x, knob, 1, 1);
        sight(x, rim, 1, 1);
    }

    private static void sightFromWithin() {
        TalePlay x = roomAndMan();
        int box = thing(x, BOX, 1, IN, 0);
        int nut = thing(x, THING, 1, IN, box);
        int cup = thing(x, THING, 1, IN, 0);
        int bag = thing(x, BOX, 1, HELD, 1);
        int pea = thing(x, THING, 1, IN, bag);
        int door = x.make(DOOR, 1);
        x.say(EXIT, 0, door, 0);
        flag(x, box, OPEN, 1);
        flag(x, nut, LIT, 1);
        x.begin(1);
        act(x, ENTER, box, 0, 0);
        sight(x, cup, 1, 1);
        sight(x, box, 1, 1);
        sight(x, door, 1, 1);
        act(x, CLOSE, box, 0, 0);
        due.be("light() by the nut", x.light(), 1);
        sight(x, box, 1, 1);
        sight(x, nut, 1, 1);
        sight(x, cup, 0, 0);
        sight(x, door, 0, 0);
        sight(x, bag, 1, 1);
        sight(x, pea, 0, 0);
        sight(x, 1, 1, 1);
        sight(x, 0, 0, 0);
        x.unsay(x.count(3) - 1);
        flag(x, box, LIT, 1);
        x.begin(1);
        act(x, ENTER, box, 0, 0);
        act(x, CLOSE, box, 0, 0);
        due.be("light() by the box around him", x.light(), 1);
        sight(x, nut, 1, 1);
        x.unsay(x.count(3) - 1);
        x.begin(1);
        act(x, ENTER, box, 0, 0);
        act(x, CLOSE, box, 0, 0);
        due.be("light() in the closed box", x.light(), 0);
        act(x, UNCLOSE, box, 0, 4);
        sight(x, bag, 1, 1);
        act(x, UNCLOSE, bag, 0, 0);
        sight(x, pea, 0, 0);
    }

    private static void reachThroughGlass() {
        TalePlay x = roomAndMan();
        int pane = thing(x, BOX, 1, IN, 0);
        int nut = thing(x, THING, 1, IN, pane);
        int tin = thing(x, BOX, 1, IN, pane);
        int pea = thing(x, THING, 1, IN, tin);
        int cup = thing(x, THING, 1, IN, 0);
        int bag = thing(x, BOX, 1, HELD, 1);
        int pip = thing(x, THING, 1, IN, bag);
        int door = x.make(DOOR, 1);
        x.say(EXIT, 0, door, 0);
        flag(x, pane, GLASS, 1);
        flag(x, bag, GLASS, 1);
        x.begin(1);
        sight(x, pane, 1, 1);
        sight(x, nut, 1, 0);
        sight(x, tin, 1, 0);
        sight(x, pea, 0, 0);
        sight(x, bag, 1, 1);
        sight(x, pip, 1, 0);
        act(x, TAKE, pip, 0, 8);
        act(x, UNCLOSE, pane, 0, 0);
        sight(x, nut, 1, 1);
        sight(x, tin, 1, 1);
        act(x, ENTER, pane, 0, 0);
        act(x, CLOSE, pane, 0, 0);
        due.be("light() through glass", x.light(), 1);
        sight(x, cup, 1, 0);
        sight(x, nut, 1, 1);
        sight(x, pane, 1, 1);
        sight(x, door, 1, 0);
        sight(x, bag, 1, 1);
        sight(x, pip, 1, 0);
        sight(x, 1, 1, 1);
        act(x, UNCLOSE, door, 0, 8);
        act(x, TAKE, cup, 0, 8);
        act(x, UNCLOSE, pane, 0, 0);
        sight(x, cup, 1, 1);
        sight(x, door, 1, 1);
    }

    /** Number 0 may be any sort of object. */
    private static void firstObject() {
        TalePlay x = new TalePlay();
        int stand = x.make(STAND, 1);
        int room = x.make(ROOM, 0);
        int man = x.make(PERSON, 1);
        x.say(IN, stand, room, 0);
        x.say(IN, man, room, 0);
        x.begin(man);
        sight(x, stand, 1, 1);
        act(x, TAKE, stand, 0, 0);
        act(x, DROP, stand, 0, 0);
        act(x, ENTER, stand, 0, 0);
        lies(x, man, ON, stand);
        act(x, LEAVE, 0, 0, 0);
        lies(x, man, IN, room);
        TalePlay y = new TalePlay();
        int hat = y.make(THING, 1);
        int box = y.make(BOX, 1);
        int hall = y.make(ROOM, 0);
        int other = y.make(PERSON, 1);
        y.say(IN, other, hall, 0);
        y.say(IN, box, hall, 0);
        y.say(IN, hat, box, 0);
        flag(y, box, OPEN, 1);
        for (int i = 0; i < 7; i++) {
            thing(y, THING, 1, IN, box);
        }
        int last = thing(y, THING, 1, HELD, other);
        y.begin(other);
        act(y, PUT_IN, last, box, 14);
        act(y, TAKE, hat, 0, 0);
        act(y, PUT_IN, last, box, 0);
    }

    private static void doorsInSight() {
        TalePlay x = roomAndMan();
        int hall = x.make(ROOM, 0);
        int door = x.make(DOOR, 1);
        int gate = x.make(DOOR, 1);
        x.say(EXIT, 0, hall, 4);
        x.say(EXIT, 0, door, 0);
        x.say(EXIT, hall, door, 1);
        x.say(EXIT, hall, gate, 2);
        x.begin(1);
        sight(x, door, 1, 1);
        sight(x, gate, 0, 0);
        act(x, GO, 4, 0, 0);
        sight(x, door, 1, 1);
        sight(x, gate, 1, 1);
    }
}
