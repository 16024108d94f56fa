/** Promises 26 and 27: the shortest play to a goal. */
public final class SeekTest {
    private static final int BAD = TalePlay.BAD, STATE = TalePlay.STATE, NONE = TalePlay.NONE;
    private static final int ROOM = 0, THING = 1, DOOR = 2, BOX = 3, STAND = 4, PERSON = 5;
    private static final int IN = 0, ON = 1, HELD = 2, PART = 4, EXIT = 5, FLAG = 6, KEY = 7;
    private static final int GO = 0, TAKE = 1, DROP = 2, PUT_IN = 3, PUT_ON = 4, UNCLOSE = 5, UNLOCK = 7,
            ENTER = 10, LEAVE = 11, WAIT = 12;
    private static final Due due = new Due("SeekTest");

    public static void main(String[] args) {
        refused();
        presentGoal();
        longPlay();
        orderOfActs();
        leastByXAndY();
        statesTriedFrom();
        threeHundredStates();
        firstObject();
        playStaysTold();
        bulksCount();
        due.done();
    }

    private static TalePlay roomAndMan() {
        TalePlay x = new TalePlay();
        x.make(ROOM, 0);
        x.make(PERSON, 10);
        x.say(IN, 1, 0, 0);
        return x;
    }

    private static int thing(TalePlay x, int kind, int size, int form, int where) {
        int o = x.make(kind, size);
        due.be("the place of " + o, x.say(form, o, where, 0) >= 0 ? 1 : 0, 1);
        return o;
    }

    private static void playIs(TalePlay x, String call, int got, int[]... acts) {
        due.be(call, got, acts.length);
        due.be("count(7) of " + call, x.count(7), acts.length);
        for (int i = 0; i < acts.length; i++) {
            for (int what = 0; what < 3; what++) {
                due.be("sought(" + i + ", " + what + ") of " + call, x.sought(i, what), acts[i][what]);
            }
        }
        due.be("sought behind the end of " + call, x.sought(acts.length, 0), NONE);
    }

    private static int[] does(int verb, int a, int b) {
        return new int[] {verb, a, b};
    }

    private static void refused() {
        TalePlay x = roomAndMan();
        due.be("seek(1, 0, 5) without a tale", x.seek(1, 0, 5), STATE);
        due.be("sought(0, 0) of none", x.sought(0, 0), NONE);
        due.be("sought(-1, 0)", x.sought(-1, 0), NONE);
        due.be("sought(0, 3)", x.sought(0, 3), BAD);
        due.be("sought(0, -1)", x.sought(0, -1), BAD);
        due.be("count(7)", x.count(7), NONE);
        x.begin(1);
        due.be("seek(2, 0, 5)", x.seek(2, 0, 5), BAD);
        due.be("seek(-1, 0, 5)", x.seek(-1, 0, 5), BAD);
        due.be("seek(0, 2, 5)", x.seek(0, 2, 5), BAD);
        due.be("seek(0, -1, 5)", x.seek(0, -1, 5), BAD);
        due.be("seek(1, 0, -1)", x.seek(1, 0, -1), BAD);
        due.be("seek(1, 0, 301)", x.seek(1, 0, 301), BAD);
        due.be("count(7)", x.count(7), NONE);
        due.be("seek(0, 1, 300): a goal that can not be", x.seek(0, 1, 300), NONE);
        due.be("count(7)", x.count(7), NONE);
    }

    private static void presentGoal() {
        TalePlay x = roomAndMan();
        int cup = thing(x, THING, 1, IN, 0);
        int knob = thing(x, THING, 1, PART, cup);
        x.begin(1);
        playIs(x, "seek(1, 0, 0)", x.seek(1, 0, 0));
        playIs(x, "seek(knob, cup, 300)", x.seek(knob, cup, 300));
        due.be("seek(knob, 0, 300): not deeper", x.seek(knob, 0, 300), NONE);
        due.be("sought(0, 0) of none", x.sought(0, 0), NONE);
        due.be("seek(cup, 1, 0)", x.seek(cup, 1, 0), NONE);
        playIs(x, "seek(cup, 1, 1)", x.seek(cup, 1, 1), does(TAKE, cup, 0));
    }

    /** The key is in a chest behind a locked door. */
    private static void longPlay() {
        TalePlay x = roomAndMan();
        int hall = x.make(ROOM, 0);
        int door = x.make(DOOR, 5);
        int key = thing(x, THING, 1, IN, 0);
        int chest = thing(x, BOX, 1, IN, hall);
        int gem = thing(x, THING, 1, IN, chest);
        x.say(EXIT, 0, door, 3);
        x.say(EXIT, hall, door, 7);
        x.say(KEY, key, door, 0);
        x.say(FLAG, door, 1, 1);
        x.begin(1);
        long digest = x.digest();
        playIs(x, "seek(gem, 1, 300)", x.seek(gem, 1, 300), does(TAKE, key, 0), does(UNLOCK, door, key),
                does(UNCLOSE, door, 0), does(GO, 3, 0), does(UNCLOSE, chest, 0), does(TAKE, gem, 0));
        due.be("digest() stays", x.digest(), digest);
        due.be("count(5) stays", x.count(5), 0);
        int length = x.count(7);
        for (int i = 0; i < length; i++) {
            due.be("act " + i + " of the play", x.act(x.sought(i, 0), x.sought(i, 1), x.sought(i, 2)), 0);
        }
        due.be("now(gem, 1)", x.now(gem, 1), 1);
        playIs(x, "seek(gem, hall, 300)", x.seek(gem, hall, 300), does(DROP, gem, 0));
    }

    /** Of several plays of the same length the one whose first acts have the least numbers. */
    private static void orderOfActs() {
        TalePlay x = roomAndMan();
        int box = thing(x, BOX, 1, IN, 0);
        int pen = thing(x, THING, 1, HELD, 1);
        x.say(FLAG, box, 0, 1);
        x.begin(1);
        playIs(x, "seek(pen, box, 300)", x.seek(pen, box, 300), does(PUT_IN, pen, box));
        playIs(x, "seek(1, box, 300)", x.seek(1, box, 300), does(ENTER, box, 0));
        x.act(ENTER, box, 0);
        playIs(x, "seek(pen, box, 300) from within", x.seek(pen, box, 300), does(DROP, pen, 0));
        playIs(x, "seek(1, 0, 300)", x.seek(1, 0, 300), does(LEAVE, 0, 0));
        x.act(LEAVE, 0, 0);
        x.act(DROP, pen, 0);
        playIs(x, "seek(pen, box, 300) from without", x.seek(pen, box, 300), does(TAKE, pen, 0),
                does(PUT_IN, pen, box));
    }

    private static void leastByXAndY() {
        TalePlay x = roomAndMan();
        int yard = x.make(ROOM, 0);
        x.say(EXIT, 0, yard, 8);
        x.say(EXIT, 0, yard, 2);
        int stand = thing(x, STAND, 1, IN, 0);
        int tray = thing(x, STAND, 1, IN, 0);
        int pen = thing(x, THING, 1, HELD, 1);
        x.begin(1);
        playIs(x, "seek(1, yard, 300)", x.seek(1, yard, 300), does(GO, 2, 0));
        playIs(x, "seek(pen, tray, 300)", x.seek(pen, tray, 300), does(PUT_ON, pen, tray));
        playIs(x, "seek(tray, stand, 300)", x.seek(tray, stand, 300), does(TAKE, tray, 0),
                does(PUT_ON, tray, stand));
        playIs(x, "seek(stand, yard, 300)", x.seek(stand, yard, 300), does(TAKE, stand, 0), does(GO, 2, 0),
                does(DROP, stand, 0));
    }

    /** Rooms in a row: one more state is tried from for each room. */
    private static void statesTriedFrom() {
        TalePlay x = roomAndMan();
        int last = 0;
        for (int r = 0; r < 20; r++) {
            int next = x.make(ROOM, 0);
            x.say(EXIT, last, next, 0);
            x.say(EXIT, next, next, 1);
            last = next;
        }
        x.begin(1);
        due.be("seek in 19", x.seek(1, last, 19), NONE);
        due.be("sought(0, 0)", x.sought(0, 0), NONE);
        due.be("seek in 20", x.seek(1, last, 20), 20);
        due.be("sought(19, 0)", x.sought(19, 0), GO);
        due.be("sought(20, 0)", x.sought(20, 0), NONE);
        due.be("seek in 300", x.seek(1, last, 300), 20);
    }

    /**
     * A room with ways to 3 rooms without return, 20 things and a fixed box with 3 gems. State 0 leads to 3 + 20 + 1
     * others; from those with a thing in hand come 20 * 3 by going, 190 pairs of things, 20 by opening the box; then
     * from the open box 3 by going: 298 in all. The gems follow: the first is in the 299th state, the second in the
     * 300th, the third in none that is kept.
     */
    private static void threeHundredStates() {
        TalePlay x = roomAndMan();
        for (int way = 0; way < 3; way++) {
            int pit = x.make(ROOM, 0);
            x.say(EXIT, 0, pit, 2 * way);
            x.say(EXIT, pit, pit, 2 * way + 1);
        }
        for (int i = 0; i < 20; i++) {
            thing(x, THING, 1, IN, 0);
        }
        int box = thing(x, BOX, 1, IN, 0);
        x.say(FLAG, box, 3, 1);
        int first = thing(x, THING, 1, IN, box);
        int second = thing(x, THING, 1, IN, box);
        int third = thing(x, THING, 1, IN, box);
        x.begin(1);
        playIs(x, "seek the first", x.seek(first, 1, 300), does(UNCLOSE, box, 0), does(TAKE, first, 0));
        playIs(x, "seek the second", x.seek(second, 1, 300), does(UNCLOSE, box, 0), does(TAKE, second, 0));
        due.be("seek the third", x.seek(third, 1, 300), NONE);
        due.be("count(7)", x.count(7), NONE);
        playIs(x, "seek the second in 25", x.seek(second, 1, 25), does(UNCLOSE, box, 0), does(TAKE, second, 0));
        due.be("seek the second in 24", x.seek(second, 1, 24), NONE);
        due.be("act OPEN", x.act(UNCLOSE, box, 0), 0);
        playIs(x, "seek the third behind it", x.seek(third, 1, 300), does(TAKE, third, 0));
    }

    /** Number 0 may be any sort of object; states differ by its place, too. */
    private static void firstObject() {
        TalePlay x = new TalePlay();
        int nut = x.make(THING, 1);
        int room = x.make(ROOM, 0);
        int man = x.make(PERSON, 1);
        int box = x.make(BOX, 1);
        x.say(IN, nut, room, 0);
        x.say(IN, man, room, 0);
        x.say(IN, box, room, 0);
        x.say(FLAG, box, 3, 1);
        x.begin(man);
        playIs(x, "seek(nut, box, 300)", x.seek(nut, box, 300), does(TAKE, nut, 0), does(UNCLOSE, box, 0),
                does(PUT_IN, nut, box));
    }

    private static void playStaysTold() {
        TalePlay x = roomAndMan();
        int cup = thing(x, THING, 1, IN, 0);
        x.begin(1);
        playIs(x, "seek(cup, 1, 300)", x.seek(cup, 1, 300), does(TAKE, cup, 0));
        x.act(WAIT, 0, 0);
        due.be("seek(9, 1, 300)", x.seek(9, 1, 300), BAD);
        due.be("count(7) stays by BAD", x.count(7), 1);
        x.make(ROOM, 0);
        due.be("count(6)", x.count(6), NONE);
        due.be("count(7) stays without a tale", x.count(7), 1);
        due.be("sought(0, 1) stays", x.sought(0, 1), cup);
        due.be("seek(cup, 1, 300)", x.seek(cup, 1, 300), STATE);
        due.be("count(7) stays by STATE", x.count(7), 1);
        x.begin(1);
        due.be("count(7) stays in a new tale", x.count(7), 1);
        due.be("seek(cup, 1, 0)", x.seek(cup, 1, 0), NONE);
        due.be("count(7) of none", x.count(7), NONE);
        due.be("sought(0, 0) of none", x.sought(0, 0), NONE);
    }

    /** What he holds already is too much: first he must drop it. */
    private static void bulksCount() {
        TalePlay x = roomAndMan();
        int rock = thing(x, THING, 90, HELD, 1);
        int stone = thing(x, THING, 11, IN, 0);
        x.begin(1);
        playIs(x, "seek(stone, 1, 300)", x.seek(stone, 1, 300), does(DROP, rock, 0), does(TAKE, stone, 0));
        TalePlay on = roomAndMan();
        int stand = thing(on, STAND, 1, IN, 0);
        int tray = thing(on, STAND, 1, ON, stand);
        on.begin(1);
        playIs(on, "seek(tray, 0, 300)", on.seek(tray, 0, 300), does(TAKE, tray, 0), does(DROP, tray, 0));
    }
}
