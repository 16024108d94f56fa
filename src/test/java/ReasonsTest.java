/** Where several reasons against an act fit at once, the first one is answered; each pair that can fit at once. */
public final class ReasonsTest {
    private static final int IN = Worlds.IN, ON = Worlds.ON, HELD = Worlds.HELD, WORN = Worlds.WORN, PART = Worlds.PART;
    private static final int OPEN = Worlds.OPEN, LOCKED = Worlds.LOCKED, LIT = Worlds.LIT, FIXED = Worlds.FIXED,
            GLASS = Worlds.GLASS;
    private static final int ROOM = 0, THING = 1, DOOR = 2, BOX = 3, STAND = 4, PERSON = 5;
    private static final Due due = new Due("ReasonsTest");

    public static void main(String[] args) {
        going();
        taking();
        takingWhatIsAroundHim();
        takingFromAGiant();
        takingInTheDark();
        puttingIn();
        puttingOn();
        openingAndClosing();
        unlocking();
        locking();
        wearing();
        entering();
        leaving();
        due.done();
    }

    private static void act(TalePlay x, String which, int verb, int a, int b, int reason) {
        due.be(which + ": act(" + verb + ", " + a + ", " + b + ")", x.act(verb, a, b), reason);
    }

    private static void going() {
        due.sentence(0, "0 GO x (a DIRECTION, else BAD): 1 .. 2 .. 3");
        TalePlay x = Worlds.roomAndMan();
        int far = x.make(ROOM, 0);
        int door = x.make(DOOR, 1);
        int gate = x.make(DOOR, 1);
        int stand = Worlds.thing(x, STAND, 1, IN, 0);
        int box = Worlds.thing(x, BOX, 1, IN, 0);
        Worlds.flag(x, box, OPEN, 1);
        Worlds.say(x, Worlds.EXIT, 0, door, 0);
        Worlds.say(x, Worlds.EXIT, far, door, 1);
        Worlds.say(x, Worlds.EXIT, 0, gate, 2);
        x.begin(1);
        act(x, "2 of no exit", 0, 9, 0, 2);
        act(x, "2 ahead of 3: a closed door that leads to none", 0, 2, 0, 2);
        act(x, "3 of a closed door", 0, 0, 0, 3);
        act(x, "he enters", 10, stand, 0, 0);
        act(x, "1 ahead of 2", 0, 9, 0, 1);
        act(x, "1 ahead of 2 and 3", 0, 2, 0, 1);
        act(x, "1 ahead of 3", 0, 0, 0, 1);
        act(x, "he enters", 10, box, 0, 0);
        act(x, "1 in an open box", 0, 0, 0, 1);
        act(x, "BAD ahead of 1", 0, 10, 0, TalePlay.BAD);
    }

    private static void taking() {
        due.sentence(0, "the first one that fits .. 1 TAKE x");
        TalePlay x = Worlds.roomAndMan();
        int other = Worlds.thing(x, PERSON, 1, IN, 0);
        int pane = Worlds.thing(x, BOX, 1, IN, 0);
        int fixedInPane = Worlds.thing(x, THING, 1, IN, pane);
        int heavyInPane = Worlds.thing(x, THING, 99, IN, pane);
        int bag = Worlds.thing(x, BOX, 1, HELD, other);
        int inBag = Worlds.thing(x, THING, 99, IN, bag);
        int badge = Worlds.thing(x, THING, 1, PART, other);
        int chain = Worlds.thing(x, THING, 1, WORN, other);
        int heavyOfOther = Worlds.thing(x, THING, 99, HELD, other);
        int fixedHeavy = Worlds.thing(x, THING, 99, IN, 0);
        int stone = Worlds.thing(x, THING, 99, HELD, 1);
        int second = Worlds.thing(x, THING, 50, HELD, 1);
        int closed = Worlds.thing(x, BOX, 1, IN, 0);
        int hidden = Worlds.thing(x, THING, 99, IN, closed);
        Worlds.flag(x, pane, GLASS, 1);
        Worlds.flag(x, bag, GLASS, 1);
        int[] fixed = {fixedInPane, chain, fixedHeavy, stone, hidden};
        for (int o : fixed) {
            Worlds.flag(x, o, FIXED, 1);
        }
        x.begin(1);
        act(x, "4 ahead of 7 and 10", 1, hidden, 0, 4);
        act(x, "5 ahead of 7: he is no goods", 1, 1, 0, 5);
        act(x, "6 ahead of 7 and 10", 1, stone, 0, 6);
        act(x, "6 ahead of 10", 1, second, 0, 6);
        act(x, "7 ahead of 8", 1, fixedInPane, 0, 7);
        act(x, "7 ahead of 9: a part", 1, badge, 0, 7);
        act(x, "7 ahead of 9: fixed", 1, chain, 0, 7);
        act(x, "7 ahead of 10", 1, fixedHeavy, 0, 7);
        act(x, "7 of a person", 1, other, 0, 7);
        act(x, "8 ahead of 10", 1, heavyInPane, 0, 8);
        act(x, "8 ahead of 9 and 10", 1, inBag, 0, 8);
        act(x, "9 ahead of 10", 1, heavyOfOther, 0, 9);
        act(x, "9 ahead of 10: what holds", 1, bag, 0, 9);
    }

    /** A man in a closed glass box, which is in an open, fixed, heavy one, which is in a closed glass one. */
    private static void takingWhatIsAroundHim() {
        due.sentence(0, "5 x is THE PLAYER, or UP from him");
        TalePlay x = new TalePlay();
        x.make(ROOM, 0);
        int outer = Worlds.thing(x, BOX, 99, IN, 0);
        int middle = Worlds.thing(x, BOX, 99, IN, outer);
        int inner = Worlds.thing(x, BOX, 99, IN, middle);
        int man = Worlds.thing(x, PERSON, 1, IN, inner);
        Worlds.flag(x, outer, GLASS, 1);
        Worlds.flag(x, middle, OPEN, 1);
        Worlds.flag(x, middle, FIXED, 1);
        Worlds.flag(x, inner, GLASS, 1);
        x.begin(man);
        act(x, "5 ahead of 10", 1, inner, 0, 5);
        act(x, "5 ahead of 7, 8 and 10", 1, middle, 0, 5);
        act(x, "5 ahead of 8 and 10", 1, outer, 0, 5);
        act(x, "4: a room is never seen", 1, 0, 0, 4);
        due.be("now(outer, 4)", x.now(outer, 4), 1);
        due.be("now(outer, 5)", x.now(outer, 5), 0);
        due.be("now(inner, 5)", x.now(inner, 5), 1);
    }

    private static void takingFromAGiant() {
        due.sentence(0, "9 x is UP to another PERSON (at whatever depth)");
        TalePlay x = new TalePlay();
        x.make(ROOM, 0);
        int giant = Worlds.thing(x, PERSON, 1, IN, 0);
        int sack = Worlds.thing(x, BOX, 1, HELD, giant);
        int man = Worlds.thing(x, PERSON, 1, IN, sack);
        int cup = Worlds.thing(x, THING, 1, HELD, man);
        int crumb = Worlds.thing(x, THING, 1, IN, sack);
        int tray = Worlds.thing(x, STAND, 1, IN, sack);
        int nut = Worlds.thing(x, THING, 1, ON, tray);
        int free = Worlds.thing(x, THING, 1, IN, 0);
        Worlds.flag(x, sack, OPEN, 1);
        x.begin(man);
        act(x, "5 ahead of 9", 1, sack, 0, 5);
        act(x, "5 ahead of 7", 1, giant, 0, 5);
        act(x, "6 ahead of 9", 1, cup, 0, 6);
        act(x, "9 beside him", 1, crumb, 0, 9);
        act(x, "9 deeper", 1, nut, 0, 9);
        act(x, "none outside", 1, free, 0, 0);
        act(x, "he drops it in the sack", 2, free, 0, 0);
        act(x, "9 of what he dropped", 1, free, 0, 9);
    }

    private static void takingInTheDark() {
        due.sentence(0, "the first one that fits .. 4 x is not SEEN");
        TalePlay x = Worlds.roomAndMan();
        int other = Worlds.thing(x, PERSON, 1, IN, 0);
        int cup = Worlds.thing(x, THING, 99, HELD, other);
        int rock = Worlds.thing(x, THING, 99, IN, 0);
        int box = Worlds.thing(x, BOX, 1, IN, 0);
        int stand = Worlds.thing(x, STAND, 1, IN, 0);
        int pen = Worlds.thing(x, THING, 1, HELD, 1);
        int hat = Worlds.thing(x, THING, 1, WORN, 1);
        Worlds.flag(x, rock, FIXED, 1);
        Worlds.flag(x, 0, LIT, 0);
        x.begin(1);
        act(x, "4 ahead of 5", 1, 1, 0, 4);
        act(x, "4 ahead of 7", 1, other, 0, 4);
        act(x, "4 ahead of 9 and 10", 1, cup, 0, 4);
        act(x, "4 ahead of 7 and 10", 1, rock, 0, 4);
        act(x, "6: what he holds is always seen", 1, pen, 0, 6);
        act(x, "what he wears is always seen", 1, hat, 0, 0);
        act(x, "11 ahead of 4", 3, rock, box, 11);
        act(x, "4 ahead of 12", 3, pen, stand, 4);
        act(x, "4 ahead of 3", 3, pen, box, 4);
        act(x, "4 ahead of 12", 4, pen, box, 4);
        act(x, "4", 4, pen, stand, 4);
        act(x, "4 ahead of 12", 5, rock, 0, 4);
        act(x, "4 ahead of 3", 6, box, 0, 4);
        act(x, "4 ahead of 17 and 11", 7, box, rock, 4);
        act(x, "4 ahead of 11", 8, box, rock, 4);
        act(x, "4 ahead of 12", 10, rock, 0, 4);
        act(x, "4 ahead of 3", 10, box, 0, 4);
        act(x, "12: what he holds is seen", 5, pen, 0, 12);
        act(x, "12: what he holds is seen", 10, pen, 0, 12);
        act(x, "12 of y that is x", 3, pen, pen, 12);
        act(x, "none", 2, pen, 0, 0);
    }

    private static void puttingIn() {
        due.sentence(0, "3 PUT x IN y: 11 (of x); 4 (of y); 12 y is no BOX; 13 .. 3 .. 8 (of y); 14 eight are IN y");
        TalePlay x = Worlds.roomAndMan();
        int pen = Worlds.thing(x, THING, 1, HELD, 1);
        int cup = Worlds.thing(x, THING, 1, WORN, 1);
        int shut = Worlds.thing(x, BOX, 1, HELD, 1);
        int inShut = Worlds.thing(x, BOX, 1, IN, shut);
        int pane = Worlds.thing(x, BOX, 1, HELD, 1);
        int inPane = Worlds.thing(x, BOX, 1, IN, pane);
        int openInPane = Worlds.thing(x, BOX, 1, IN, pane);
        int full = Worlds.thing(x, BOX, 1, HELD, 1);
        int glass = Worlds.thing(x, BOX, 1, IN, 0);
        int closedInGlass = Worlds.thing(x, BOX, 1, IN, glass);
        int fullInGlass = Worlds.thing(x, BOX, 1, IN, glass);
        for (int i = 0; i < 8; i++) {
            Worlds.thing(x, THING, 0, IN, full);
            Worlds.thing(x, THING, 0, IN, fullInGlass);
        }
        Worlds.flag(x, pane, GLASS, 1);
        Worlds.flag(x, glass, GLASS, 1);
        int[] open = {openInPane, full, fullInGlass};
        for (int o : open) {
            Worlds.flag(x, o, OPEN, 1);
        }
        x.begin(1);
        act(x, "11 ahead of 4", 3, cup, 0, 11);
        act(x, "11 ahead of 12", 3, cup, cup, 11);
        act(x, "11 ahead of 13", 3, glass, glass, 11);
        act(x, "11 ahead of 14", 3, cup, full, 11);
        act(x, "4 ahead of 12", 3, pen, 0, 4);
        act(x, "4 ahead of 13 and 3", 3, shut, inShut, 4);
        act(x, "12 ahead of 13", 3, pen, pen, 12);
        act(x, "12 of a person", 3, pen, 1, 12);
        act(x, "13 ahead of 3", 3, shut, shut, 13);
        act(x, "13 ahead of 3 and 8", 3, pane, inPane, 13);
        act(x, "13 ahead of 8", 3, pane, openInPane, 13);
        act(x, "13 ahead of 14", 3, full, full, 13);
        act(x, "3 ahead of 8", 3, pen, closedInGlass, 3);
        act(x, "3 of glass", 3, pen, glass, 3);
        act(x, "8 ahead of 14", 3, pen, fullInGlass, 8);
        act(x, "14", 3, pen, full, 14);
        act(x, "he closes it", 6, full, 0, 0);
        act(x, "3 ahead of 14", 3, pen, full, 3);
    }

    private static void puttingOn() {
        due.sentence(0, "4 PUT x ON y: 11; 4 (y); 12 y is no STAND; 13; 8 (y); 14 eight are ON y");
        TalePlay x = Worlds.roomAndMan();
        int pen = Worlds.thing(x, THING, 1, HELD, 1);
        int cup = Worlds.thing(x, THING, 1, WORN, 1);
        int shut = Worlds.thing(x, BOX, 1, HELD, 1);
        int inShut = Worlds.thing(x, STAND, 1, IN, shut);
        int pane = Worlds.thing(x, BOX, 1, HELD, 1);
        int inPane = Worlds.thing(x, STAND, 1, IN, pane);
        int full = Worlds.thing(x, STAND, 1, HELD, 1);
        int glass = Worlds.thing(x, BOX, 1, IN, 0);
        int fullInGlass = Worlds.thing(x, STAND, 1, IN, glass);
        for (int i = 0; i < 8; i++) {
            Worlds.thing(x, THING, 0, ON, full);
            Worlds.thing(x, THING, 0, ON, fullInGlass);
        }
        Worlds.flag(x, pane, GLASS, 1);
        Worlds.flag(x, glass, GLASS, 1);
        x.begin(1);
        act(x, "11 ahead of 4", 4, cup, 0, 11);
        act(x, "11 ahead of 12", 4, cup, cup, 11);
        act(x, "11 ahead of 13", 4, inPane, inPane, 11);
        act(x, "11 ahead of 14", 4, cup, full, 11);
        act(x, "4 ahead of 12", 4, pen, 0, 4);
        act(x, "4 ahead of 13", 4, shut, inShut, 4);
        act(x, "12 ahead of 13", 4, shut, shut, 12);
        act(x, "13 ahead of 8", 4, pane, inPane, 13);
        act(x, "13 ahead of 14", 4, full, full, 13);
        act(x, "8 ahead of 14", 4, pen, fullInGlass, 8);
        act(x, "14", 4, pen, full, 14);
    }

    private static void openingAndClosing() {
        TalePlay x = Worlds.roomAndMan();
        int pane = Worlds.thing(x, BOX, 1, IN, 0);
        int cup = Worlds.thing(x, THING, 1, IN, pane);
        int open = Worlds.thing(x, BOX, 1, IN, pane);
        int locked = Worlds.thing(x, BOX, 1, IN, pane);
        int closed = Worlds.thing(x, BOX, 1, IN, pane);
        int sort = x.kind(BOX);
        int both = Worlds.thing(x, sort, 1, IN, pane);
        x.standard(sort, OPEN, 1);
        x.standard(sort, LOCKED, 1);
        Worlds.flag(x, pane, GLASS, 1);
        Worlds.flag(x, open, OPEN, 1);
        Worlds.flag(x, locked, LOCKED, 1);
        x.begin(1);
        due.sentence(0, "5 OPEN x: 4; 12 no SHUTTER; 15 it is OPEN; 16 it is LOCKED; 8");
        act(x, "12 ahead of 8", 5, cup, 0, 12);
        act(x, "15 ahead of 8", 5, open, 0, 15);
        act(x, "15 ahead of 16 and 8", 5, both, 0, 15);
        act(x, "16 ahead of 8", 5, locked, 0, 16);
        act(x, "8", 5, closed, 0, 8);
        due.sentence(0, "6 CLOSE x: 4; 12; 3 it is not OPEN; 8");
        act(x, "12 ahead of 3 and 8", 6, cup, 0, 12);
        act(x, "3 ahead of 8", 6, closed, 0, 3);
        act(x, "3 ahead of 8", 6, locked, 0, 3);
        act(x, "8", 6, open, 0, 8);
        act(x, "8: locked does not count", 6, both, 0, 8);
        act(x, "he opens it", 5, pane, 0, 0);
        act(x, "none", 6, both, 0, 0);
        act(x, "16 now", 5, both, 0, 16);
    }

    private static void unlocking() {
        due.sentence(0, "7 UNLOCK x WITH y: 4 (x); 12; 17 it is not LOCKED; 8; 11 (of y); 18 y is not THE KEY of x");
        TalePlay x = Worlds.roomAndMan();
        int pane = Worlds.thing(x, BOX, 1, IN, 0);
        int cup = Worlds.thing(x, THING, 1, IN, pane);
        int locked = Worlds.thing(x, BOX, 1, IN, pane);
        int closed = Worlds.thing(x, BOX, 1, IN, pane);
        int safe = Worlds.thing(x, BOX, 1, IN, 0);
        int key = Worlds.thing(x, THING, 1, IN, 0);
        int wrong = Worlds.thing(x, THING, 1, HELD, 1);
        int worn = Worlds.thing(x, THING, 1, WORN, 1);
        int hidden = Worlds.thing(x, BOX, 1, IN, safe);
        int keyless = Worlds.thing(x, BOX, 1, IN, 0);
        Worlds.flag(x, pane, GLASS, 1);
        Worlds.flag(x, locked, LOCKED, 1);
        Worlds.flag(x, safe, LOCKED, 1);
        Worlds.flag(x, keyless, LOCKED, 1);
        Worlds.say(x, Worlds.KEY, key, safe, 0);
        Worlds.say(x, Worlds.KEY, worn, locked, 0);
        x.begin(1);
        act(x, "4 ahead of 17 and 11", 7, hidden, key, 4);
        act(x, "12 ahead of 8 and 11", 7, cup, key, 12);
        act(x, "17 ahead of 8 and 11", 7, closed, key, 17);
        act(x, "17 ahead of 18", 7, pane, wrong, 17);
        act(x, "8 ahead of 11 and 18", 7, locked, key, 8);
        act(x, "8 ahead of 18", 7, locked, wrong, 8);
        act(x, "11 of the key on the floor", 7, safe, key, 11);
        act(x, "11 ahead of 18", 7, safe, cup, 11);
        act(x, "11: worn is not held", 7, safe, worn, 11);
        act(x, "11: a room", 7, safe, 0, 11);
        act(x, "18", 7, safe, wrong, 18);
        act(x, "18: it has no key", 7, keyless, wrong, 18);
        act(x, "he takes the key", 1, key, 0, 0);
        act(x, "none", 7, safe, key, 0);
    }

    private static void locking() {
        due.sentence(0, "8 LOCK x WITH y: 4; 12; 16; 15; 8; 11; 18");
        TalePlay x = Worlds.roomAndMan();
        int pane = Worlds.thing(x, BOX, 1, IN, 0);
        int cup = Worlds.thing(x, THING, 1, IN, pane);
        int open = Worlds.thing(x, BOX, 1, IN, pane);
        int closed = Worlds.thing(x, BOX, 1, IN, pane);
        int sort = x.kind(BOX);
        int both = Worlds.thing(x, sort, 1, IN, pane);
        int hidden = Worlds.thing(x, BOX, 1, IN, closed);
        int safe = Worlds.thing(x, BOX, 1, IN, 0);
        int key = Worlds.thing(x, THING, 1, IN, 0);
        int wrong = Worlds.thing(x, THING, 1, HELD, 1);
        x.standard(sort, OPEN, 1);
        x.standard(sort, LOCKED, 1);
        Worlds.flag(x, pane, GLASS, 1);
        Worlds.flag(x, open, OPEN, 1);
        Worlds.say(x, Worlds.KEY, key, safe, 0);
        x.begin(1);
        act(x, "4 ahead of 11", 8, hidden, key, 4);
        act(x, "12 ahead of 8 and 11", 8, cup, key, 12);
        act(x, "16 ahead of 15, 8 and 11", 8, both, key, 16);
        act(x, "15 ahead of 8 and 11", 8, open, key, 15);
        act(x, "8 ahead of 11", 8, closed, key, 8);
        act(x, "8 ahead of 18", 8, closed, wrong, 8);
        act(x, "11 of the key on the floor", 8, safe, key, 11);
        act(x, "11 ahead of 18", 8, safe, cup, 11);
        act(x, "18", 8, safe, wrong, 18);
        act(x, "he takes the key", 1, key, 0, 0);
        act(x, "he opens it", 5, safe, 0, 0);
        act(x, "15 ahead of none", 8, safe, key, 15);
        act(x, "he closes it", 6, safe, 0, 0);
        act(x, "none", 8, safe, key, 0);
        act(x, "16", 8, safe, wrong, 16);
    }

    private static void wearing() {
        due.sentence(0, "9 WEAR x: 11; 19 it is no GARMENT");
        TalePlay x = Worlds.roomAndMan();
        int cup = Worlds.thing(x, THING, 1, IN, 0);
        int pen = Worlds.thing(x, THING, 1, HELD, 1);
        int bag = Worlds.thing(x, BOX, 1, HELD, 1);
        int scarf = Worlds.thing(x, THING, 1, IN, bag);
        int worn = Worlds.thing(x, THING, 1, WORN, 1);
        Worlds.flag(x, bag, OPEN, 1);
        Worlds.flag(x, scarf, Worlds.GARMENT, 1);
        x.begin(1);
        act(x, "11 ahead of 19", 9, cup, 0, 11);
        act(x, "11 ahead of 19: worn, but no garment", 9, worn, 0, 11);
        act(x, "11: not he himself holds it", 9, scarf, 0, 11);
        act(x, "11: himself", 9, 1, 0, 11);
        act(x, "19", 9, pen, 0, 19);
        act(x, "he takes it", 1, scarf, 0, 0);
        act(x, "none", 9, scarf, 0, 0);
    }

    private static void entering() {
        due.sentence(0, "10 ENTER x: 4; 12 .. 13 .. 3 a BOX that is not OPEN; 8; 20 he is IN, ON x himself");
        TalePlay x = Worlds.roomAndMan();
        int held = Worlds.thing(x, BOX, 1, HELD, 1);
        int worn = Worlds.thing(x, BOX, 1, WORN, 1);
        int part = Worlds.thing(x, STAND, 1, PART, 1);
        int pane = Worlds.thing(x, BOX, 1, HELD, 1);
        int shelf = Worlds.thing(x, STAND, 1, IN, pane);
        int pen = Worlds.thing(x, THING, 1, HELD, 1);
        int glass = Worlds.thing(x, BOX, 1, IN, 0);
        int closed = Worlds.thing(x, BOX, 1, IN, glass);
        int open = Worlds.thing(x, BOX, 1, IN, glass);
        int stand = Worlds.thing(x, STAND, 1, IN, glass);
        int lamp = Worlds.thing(x, BOX, 1, IN, 0);
        Worlds.flag(x, pane, GLASS, 1);
        Worlds.flag(x, glass, GLASS, 1);
        Worlds.flag(x, open, OPEN, 1);
        Worlds.flag(x, lamp, LIT, 1);
        x.begin(1);
        act(x, "4 of the room", 10, 0, 0, 4);
        act(x, "12 ahead of 13", 10, pen, 0, 12);
        act(x, "12 of himself", 10, 1, 0, 12);
        act(x, "13 ahead of 3: held", 10, held, 0, 13);
        act(x, "13 ahead of 3: worn", 10, worn, 0, 13);
        act(x, "13: a part of him", 10, part, 0, 13);
        act(x, "13 ahead of 8", 10, shelf, 0, 13);
        act(x, "3 ahead of 8", 10, closed, 0, 3);
        act(x, "8: an open box", 10, open, 0, 8);
        act(x, "8: a stand", 10, stand, 0, 8);
        act(x, "he opens it", 5, lamp, 0, 0);
        act(x, "he enters", 10, lamp, 0, 0);
        act(x, "20", 10, lamp, 0, 20);
        act(x, "he closes it", 6, lamp, 0, 0);
        act(x, "3 ahead of 20", 10, lamp, 0, 3);
        act(x, "4: the shell is closed", 10, glass, 0, 4);
    }

    private static void leaving() {
        due.sentence(0, "11 LEAVE: 1 he IS IN a ROOM himself; 3 he is IN a BOX that is not OPEN; 21");
        TalePlay x = new TalePlay();
        x.make(ROOM, 0);
        int giant = Worlds.thing(x, PERSON, 1, IN, 0);
        int sack = Worlds.thing(x, BOX, 1, HELD, giant);
        int hat = Worlds.thing(x, STAND, 1, WORN, giant);
        int arm = Worlds.thing(x, STAND, 1, PART, giant);
        int man = Worlds.thing(x, PERSON, 1, IN, sack);
        int onHat = Worlds.thing(x, PERSON, 1, ON, hat);
        int onArm = Worlds.thing(x, PERSON, 1, ON, arm);
        Worlds.flag(x, sack, LIT, 1);
        x.begin(man);
        act(x, "3 ahead of 21", 11, 0, 0, 3);
        act(x, "he opens it", 5, sack, 0, 0);
        act(x, "21: held", 11, 0, 0, 21);
        x.begin(onHat);
        act(x, "21: worn", 11, 0, 0, 21);
        x.begin(onArm);
        act(x, "21: a part", 11, 0, 0, 21);
        x.begin(giant);
        act(x, "1", 11, 0, 0, 1);
    }
}
