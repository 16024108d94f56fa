/** Promises 10 to 19 at their edges, sentence by sentence. */
public final class SentenceEdgesTest {
    private static final int BAD = TalePlay.BAD, CLASH = TalePlay.CLASH, NONE = TalePlay.NONE;
    private static final int IN = Worlds.IN, ON = Worlds.ON, HELD = Worlds.HELD, WORN = Worlds.WORN, PART = Worlds.PART,
            EXIT = Worlds.EXIT, FLAG = Worlds.FLAG, KEY = Worlds.KEY;
    private static final int OPEN = Worlds.OPEN, LOCKED = Worlds.LOCKED, GARMENT = Worlds.GARMENT;
    private static final Due due = new Due("SentenceEdgesTest");

    public static void main(String[] args) {
        ofAnotherSort();
        whateverWasTold();
        alike();
        anotherPlace();
        inItself();
        inWhatLiesInIt();
        wornGarment();
        anotherExit();
        doorByAnotherDirection();
        doorOfTwoRooms();
        anotherValue();
        openAndLocked();
        garmentOfWorn();
        anotherKey();
        unsaying();
        latestClash();
        partsOfSentences();
        placesAsSaid();
        sidesOfDoors();
        impliedExits();
        impliedByTheFirst();
        exitsToItself();
        flagsInTales();
        keysAsSaid();
        waysByOpenDoors();
        waysFromElsewhere();
        leastDirection();
        due.done();
    }

    private static void clash(TalePlay x, int form, int a, int b, int c, int... row) {
        String call = "say(" + form + ", " + a + ", " + b + ", " + c + ")";
        int all = x.count(3);
        due.be(call, x.say(form, a, b, c), CLASH);
        for (int i = 0; i < row.length; i++) {
            due.be("clash(" + i + ") of " + call, x.clash(i), row[i]);
        }
        due.be("the end of the clash of " + call, x.clash(row.length), NONE);
        due.be("count(3) behind " + call, x.count(3), all);
    }

    /** One object of each of the six kinds, then one of a kind two beneath each of them. */
    private static TalePlay sorts() {
        TalePlay x = new TalePlay();
        for (int k = 0; k < 6; k++) {
            x.make(k, 0);
        }
        for (int k = 0; k < 6; k++) {
            x.make(x.kind(x.kind(k)), 0);
        }
        return x;
    }

    private static void ofAnotherSort() {
        due.sentence(0, "Where a or b is an OBJECT of another sort: UNLIKE");
        String[] as = {"1345", "1345", "134", "134", "134", "0", "", "134"};
        String[] bs = {"03", "4", "5", "5", "12345", "02", "", "23"};
        for (int form = IN; form <= KEY; form++) {
            for (int a = 0; form != FLAG && a < 12; a++) {
                for (int b = 0; b < 12; b++) {
                    boolean fits = as[form].indexOf('0' + a % 6) >= 0 && bs[form].indexOf('0' + b % 6) >= 0;
                    boolean inItself = a == b && form <= PART;
                    TalePlay x = sorts();
                    due.be("say(" + form + ", " + a + ", " + b + ", 0)", x.say(form, a, b, 0),
                            !fits ? TalePlay.FINDING : inItself ? CLASH : 0);
                    due.be("finding()", x.finding(), fits ? 0 : Worlds.UNLIKE);
                    due.be("findings(UNLIKE)", x.findings(Worlds.UNLIKE), fits ? 0 : 1);
                }
            }
        }
    }

    private static void whateverWasTold() {
        due.sentence(0, "c is 0 in other FORMS than 5 and 6, whatever was told");
        int[][] said = {{IN, 3, 0}, {ON, 3, 4}, {HELD, 3, 5}, {WORN, 3, 5}, {PART, 3, 2}, {KEY, 3, 2}};
        for (int[] s : said) {
            TalePlay x = Worlds.twelve();
            due.be("say", x.say(s[0], s[1], s[2], Integer.MIN_VALUE), 0);
            due.be("sentence(0, 3)", x.sentence(0, 3), 0);
            due.be("say with another c", x.say(s[0], s[1], s[2], Integer.MAX_VALUE), 0);
            due.be("say with c = 0", x.say(s[0], s[1], s[2], 0), 0);
            due.be("count(3)", x.count(3), 1);
        }
    }

    private static void alike() {
        due.sentence(0, "A SENTENCE that says what one says already is that one (it is not told again): FORM, a, b, c alike");
        TalePlay x = Worlds.twelve();
        int[][] said = {{IN, 1, 0, 0}, {IN, 7, 0, 0}, {KEY, 1, 2, 0}, {KEY, 1, 3, 0}, {EXIT, 0, 6, 0}, {EXIT, 0, 6, 9},
            {EXIT, 6, 0, 0}, {FLAG, 0, 2, 0}, {FLAG, 1, 2, 0}, {FLAG, 1, 3, 1}};
        for (int s = 0; s < said.length; s++) {
            due.be("say " + s, x.say(said[s][0], said[s][1], said[s][2], said[s][3]), s);
        }
        for (int s = 0; s < said.length; s++) {
            due.be("say " + s + " again", x.say(said[s][0], said[s][1], said[s][2], said[s][3]), s);
        }
        due.be("count(3)", x.count(3), said.length);
        due.be("unsay(0)", x.unsay(0), said.length - 1);
        due.be("one that is unsaid says nothing", x.say(IN, 1, 0, 0), said.length);
        due.be("and is not it", x.say(IN, 1, 0, 0), said.length);
    }

    private static void anotherPlace() {
        due.sentence(0, "FORMS 0 to 4: that which gives a another place (by one of these FORMS)");
        int[][] places = {{IN, 0}, {IN, 6}, {IN, 9}, {ON, 4}, {HELD, 5}, {HELD, 11}, {WORN, 5}, {PART, 2}, {PART, 5}};
        for (int first = 0; first < places.length; first++) {
            for (int other = 0; other < places.length; other++) {
                TalePlay x = Worlds.twelve();
                Worlds.say(x, KEY, 1, 2, 0);
                due.be("say", x.say(places[first][0], 1, places[first][1], 0), 1);
                if (first == other) {
                    due.be("say again", x.say(places[first][0], 1, places[first][1], 0), 1);
                } else {
                    clash(x, places[other][0], 1, places[other][1], 0, 1);
                }
            }
        }
    }

    private static void inItself() {
        due.sentence(0, "if b is a, or lies in a .. none, if b is a");
        int[][] said = {{IN, 3}, {ON, 4}, {PART, 1}, {PART, 3}, {PART, 4}};
        for (int[] s : said) {
            TalePlay x = Worlds.twelve();
            clash(x, s[0], s[1], s[1], 0);
            int place = Worlds.say(x, IN, s[1], 0, 0);
            clash(x, s[0], s[1], s[1], 0, place);
        }
    }

    private static void inWhatLiesInIt() {
        due.sentence(0, "or lies in a by places at whatever depth");
        TalePlay x = new TalePlay();
        int box = x.make(3, 1);
        int bag = x.make(3, 1);
        int tray = x.make(4, 1);
        int man = x.make(5, 1);
        int hat = x.make(3, 1);
        int band = x.make(3, 1);
        int byBand = Worlds.say(x, PART, band, hat, 0);
        int byHat = Worlds.say(x, WORN, hat, man, 0);
        int byMan = Worlds.say(x, ON, man, tray, 0);
        int byTray = Worlds.say(x, IN, tray, bag, 0);
        clash(x, IN, bag, band, 0, byBand, byHat, byMan, byTray);
        due.be("say(IN, bag, box, 0)", x.say(IN, bag, box, 0), 4);
        clash(x, IN, box, bag, 0, 4);
        clash(x, PART, box, tray, 0, byTray, 4);
        clash(x, HELD, box, man, 0, byMan, byTray, 4);
        clash(x, WORN, box, man, 0, byMan, byTray, 4);
        clash(x, IN, box, hat, 0, byHat, byMan, byTray, 4);
        clash(x, IN, box, band, 0, byBand, byHat, byMan, byTray, 4);
        x.unsay(byMan);
        due.be("say(IN, box, band, 0): the chain is cut", x.say(IN, box, band, 0), 5);
        clash(x, ON, man, tray, 0, byTray, 4, 5, byBand, byHat);
    }

    private static void wornGarment() {
        due.sentence(0, "WORN: that which says that a's GARMENT is 0");
        TalePlay x = Worlds.twelve();
        due.be("GARMENT of 1 is 0", x.say(FLAG, 1, GARMENT, 0), 0);
        due.be("GARMENT of 3 is 1", x.say(FLAG, 3, GARMENT, 1), 1);
        clash(x, WORN, 1, 5, 0, 0);
        due.be("HELD it can be", x.say(HELD, 1, 5, 0), 2);
        due.be("say(WORN, 3, 5, 0)", x.say(WORN, 3, 5, 0), 3);
        due.be("a DEFAULT of 0 does not clash", x.standard(4, GARMENT, 0), NONE);
        due.be("say(WORN, 4, 5, 0)", x.say(WORN, 4, 5, 0), 4);
        due.be("other flags of 0 do not", x.say(FLAG, 9, 5, 0), 5);
        due.be("say(WORN, 9, 5, 0)", x.say(WORN, 9, 5, 0), 6);
        x.unsay(2);
        x.unsay(0);
        due.be("say(WORN, 1, 5, 0)", x.say(WORN, 1, 5, 0), 7);
    }

    private static void anotherExit() {
        due.sentence(0, "FORM 5: that of another EXIT of a by c");
        TalePlay x = Worlds.rooms(3, 2);
        due.be("to a room", x.say(EXIT, 0, 1, 9), 0);
        clash(x, EXIT, 0, 2, 9, 0);
        clash(x, EXIT, 0, 0, 9, 0);
        clash(x, EXIT, 0, 3, 9, 0);
        due.be("to a door", x.say(EXIT, 0, 3, 8), 1);
        clash(x, EXIT, 0, 4, 8, 1);
        clash(x, EXIT, 0, 1, 8, 1);
        due.be("where one is IMPLIED", x.say(EXIT, 1, 2, 8), 2);
        due.be("the same room by another", x.say(EXIT, 0, 1, 0), 3);
        x.unsay(0);
        due.be("where one is unsaid", x.say(EXIT, 0, 2, 9), 4);
    }

    private static void doorByAnotherDirection() {
        due.sentence(0, "for a DOOR: that by which a has it by another DIRECTION");
        TalePlay x = Worlds.rooms(3, 1);
        due.be("say(EXIT, 0, 3, 9)", x.say(EXIT, 0, 3, 9), 0);
        for (int d = 0; d < 9; d++) {
            clash(x, EXIT, 0, 3, d, 0);
        }
        due.be("another room by the same", x.say(EXIT, 1, 3, 9), 1);
        due.be("say(EXIT, 0, 2, 0)", x.say(EXIT, 0, 2, 0), 2);
        clash(x, EXIT, 0, 3, 0, 2);
        clash(x, EXIT, 0, 3, 1, 0);
        clash(x, EXIT, 1, 3, 1, 1);
    }

    private static void doorOfTwoRooms() {
        due.sentence(0, "both by which two other ROOMS have it");
        TalePlay x = Worlds.rooms(4, 2);
        due.be("say(EXIT, 2, 4, 0)", x.say(EXIT, 2, 4, 0), 0);
        due.be("another door", x.say(EXIT, 0, 5, 1), 1);
        due.be("say(EXIT, 1, 4, 0)", x.say(EXIT, 1, 4, 0), 2);
        clash(x, EXIT, 0, 4, 0, 0, 2);
        clash(x, EXIT, 3, 4, 9, 0, 2);
        due.be("the other door has room for one", x.say(EXIT, 3, 5, 9), 3);
        x.unsay(0);
        due.be("say(EXIT, 3, 4, 8)", x.say(EXIT, 3, 4, 8), 4);
        clash(x, EXIT, 2, 4, 0, 2, 4);
    }

    private static void anotherValue() {
        due.sentence(0, "FORM 6: that which says another value of this FLAG of a");
        for (int f = 0; f < 6; f++) {
            for (int v = 0; v < 2; v++) {
                TalePlay x = Worlds.twelve();
                due.be("say", x.say(FLAG, 3, f, v), 0);
                due.be("say of another", x.say(FLAG, 9, f, 1 - v), 1);
                clash(x, FLAG, 3, f, 1 - v, 0);
                due.be("say again", x.say(FLAG, 3, f, v), 0);
                x.unsay(0);
                due.be("say the other one", x.say(FLAG, 3, f, 1 - v), 2);
            }
        }
    }

    private static void openAndLocked() {
        due.sentence(0, "of OPEN as 1: that of a's LOCKED as 1; of LOCKED as 1: that of a's OPEN as 1");
        for (int o = 2; o <= 3; o++) {
            for (int first = OPEN; first <= LOCKED; first++) {
                int other = 1 - first;
                TalePlay x = Worlds.twelve();
                due.be("say 1", x.say(FLAG, o, first, 1), 0);
                clash(x, FLAG, o, other, 1, 0);
                due.be("of another one", x.say(FLAG, o + 6, other, 1), 1);
                due.be("the other as 0", x.say(FLAG, o, other, 0), 2);
                clash(x, FLAG, o, other, 1, 2);
                TalePlay y = Worlds.twelve();
                due.be("say 0", y.say(FLAG, o, first, 0), 0);
                due.be("the other as 1", y.say(FLAG, o, other, 1), 1);
                y = Worlds.twelve();
                y.standard(1, first, 1);
                due.be("a DEFAULT does not clash", y.say(FLAG, o, other, 1), 0);
            }
        }
    }

    private static void garmentOfWorn() {
        due.sentence(0, "of GARMENT as 0: that by which a is WORN");
        TalePlay x = Worlds.twelve();
        Worlds.say(x, WORN, 1, 5, 0);
        Worlds.say(x, HELD, 3, 5, 0);
        clash(x, FLAG, 1, GARMENT, 0, 0);
        due.be("of one that is held", x.say(FLAG, 3, GARMENT, 0), 2);
        due.be("as 1", x.say(FLAG, 1, GARMENT, 1), 3);
        clash(x, FLAG, 1, GARMENT, 0, 3);
        due.be("another flag as 0", x.say(FLAG, 1, 3, 0), 4);
        x.unsay(3);
        x.unsay(0);
        due.be("worn no more", x.say(FLAG, 1, GARMENT, 0), 5);
        clash(x, WORN, 1, 5, 0, 5);
    }

    private static void anotherKey() {
        due.sentence(0, "FORM 7: that of another KEY of b");
        TalePlay x = Worlds.twelve();
        due.be("say(KEY, 1, 2, 0)", x.say(KEY, 1, 2, 0), 0);
        due.be("the same one of another", x.say(KEY, 1, 8, 0), 1);
        clash(x, KEY, 7, 2, 0, 0);
        clash(x, KEY, 7, 8, 0, 1);
        due.be("a box of itself", x.say(KEY, 3, 3, 0), 2);
        clash(x, KEY, 9, 3, 0, 2);
        x.unsay(0);
        due.be("say(KEY, 7, 2, 0)", x.say(KEY, 7, 2, 0), 3);
    }

    private static void unsaying() {
        due.sentence(11, "how many are said then. BAD: there is none such, or it is UNSAID");
        TalePlay x = Worlds.twelve();
        due.be("unsay(0) of none", x.unsay(0), BAD);
        Worlds.say(x, IN, 1, 0, 0);
        due.be("unsay(1)", x.unsay(1), BAD);
        due.be("unsay(0)", x.unsay(0), 0);
        due.be("unsay(0) again", x.unsay(0), BAD);
        due.be("count(2)", x.count(2), 0);
        Worlds.say(x, IN, 1, 0, 0);
        due.be("it is another one", x.unsay(0), BAD);
        due.be("unsay(1)", x.unsay(1), 0);
        due.be("count(3)", x.count(3), 2);
    }

    private static void latestClash() {
        TalePlay x = Worlds.twelve();
        due.sentence(12, "NONE: it had none such, or was none");
        due.be("clash(0): there was no say()", x.clash(0), NONE);
        Worlds.say(x, IN, 1, 0, 0);
        due.be("clash(0): it had none", x.clash(0), NONE);
        clash(x, IN, 1, 6, 0, 0);
        due.sentence(12, "UNSAID ones stay in it");
        due.be("unsay(0)", x.unsay(0), 0);
        due.be("clash(0)", x.clash(0), 0);
        x.make(0, 0);
        x.standard(0, 0, 1);
        due.be("clash(0) by others", x.clash(0), 0);
        due.sentence(12, "SENTENCE i of THE CLASH of the latest say()");
        due.be("say(IN, 1, 6, 0)", x.say(IN, 1, 6, 0), 1);
        due.be("clash(0)", x.clash(0), NONE);
        clash(x, IN, 1, 0, 0, 1);
        due.be("say(IN, 1, 6, 0) again", x.say(IN, 1, 6, 0), 1);
        due.be("clash(0) of one that is there", x.clash(0), NONE);
        clash(x, IN, 1, 0, 0, 1);
        due.be("say(-1, 0, 0, 0)", x.say(-1, 0, 0, 0), BAD);
        due.be("clash(0) of a BAD one", x.clash(0), NONE);
        clash(x, IN, 1, 0, 0, 1);
        due.find("say(IN, 0, 6, 0)", x, x.say(IN, 0, 6, 0), Worlds.UNLIKE);
        due.be("clash(0) of an UNLIKE one", x.clash(0), NONE);
    }

    private static void partsOfSentences() {
        due.sentence(13, "0 its FORM, 1 to 3 a, b, c, 4 whether it is said (1, 0). BAD");
        TalePlay x = Worlds.twelve();
        due.be("sentence(0, 0) of none", x.sentence(0, 0), BAD);
        Worlds.say(x, EXIT, 6, 0, 9);
        int[] want = {EXIT, 6, 0, 9, 1};
        for (int what = 0; what < 5; what++) {
            due.be("sentence(0, " + what + ")", x.sentence(0, what), want[what]);
        }
        x.unsay(0);
        want[4] = 0;
        for (int what = 0; what < 5; what++) {
            due.be("sentence(0, " + what + ") unsaid", x.sentence(0, what), want[what]);
        }
    }

    private static void placesAsSaid() {
        due.sentence(14, "Of an OBJECT as SAID: .. NONE without");
        TalePlay x = Worlds.roomAndMan();
        int cup = Worlds.thing(x, 1, 1, IN, 0);
        int free = x.make(1, 1);
        for (int what = 0; what < 3; what++) {
            due.be("place(room, " + what + ")", x.place(0, what), NONE);
            due.be("place(free, " + what + ")", x.place(free, what), NONE);
        }
        x.begin(1);
        x.act(Worlds.TAKE, cup, 0);
        due.be("place(cup, 0) in a tale", x.place(cup, 0), IN);
        due.be("place(cup, 1) in a tale", x.place(cup, 1), 0);
        due.be("place(cup, 2) in a tale", x.place(cup, 2), 1);
        x.unsay(1);
        for (int what = 0; what < 3; what++) {
            due.be("place(cup, " + what + ") unsaid", x.place(cup, what), NONE);
        }
    }

    private static void exit(TalePlay x, int room, int d, int... want) {
        for (int what = 0; what < 4; what++) {
            due.be("exit(" + room + ", " + d + ", " + what + ")", x.exit(room, d, what), want[what]);
        }
    }

    private static void sidesOfDoors() {
        due.sentence(0, "What an EXIT LEADS to: a ROOM; of a DOOR: its other SIDE (none without one)");
        TalePlay x = Worlds.rooms(3, 1);
        due.sentence(15, "NONE where there is none");
        exit(x, 0, 9, NONE, NONE, NONE, NONE);
        Worlds.say(x, EXIT, 2, 3, 9);
        exit(x, 2, 9, NONE, 3, 0, 0);
        Worlds.say(x, EXIT, 0, 3, 9);
        exit(x, 2, 9, 0, 3, 0, 0);
        exit(x, 0, 9, 2, 3, 1, 0);
        exit(x, 0, 8, NONE, NONE, NONE, NONE);
        exit(x, 2, 8, NONE, NONE, NONE, NONE);
        x.unsay(0);
        exit(x, 0, 9, NONE, 3, 1, 0);
        exit(x, 2, 9, NONE, NONE, NONE, NONE);
        Worlds.say(x, EXIT, 1, 3, 0);
        exit(x, 0, 9, 1, 3, 1, 0);
        due.sentence(15, "UNLIKE: no ROOM");
        due.find("exit(3, 0, 0)", x, x.exit(3, 0, 0), Worlds.UNLIKE);
    }

    private static void impliedExits() {
        due.sentence(0, "IMPLIED: .. and none an EXIT of b by the OPPOSITE of c, then b has one there to a");
        for (int d = 0; d < 10; d++) {
            int opposite = d % 2 == 0 ? d + 1 : d - 1;
            TalePlay x = Worlds.rooms(3, 1);
            Worlds.say(x, EXIT, 0, 1, d);
            exit(x, 1, opposite, 0, NONE, 0, 1);
            Worlds.say(x, EXIT, 1, 2, opposite);
            exit(x, 1, opposite, 2, NONE, 1, 0);
            exit(x, 2, d, 1, NONE, 1, 1);
            x.unsay(1);
            exit(x, 1, opposite, 0, NONE, 0, 1);
            exit(x, 2, d, NONE, NONE, NONE, NONE);
            Worlds.say(x, EXIT, 1, 3, opposite);
            exit(x, 1, opposite, NONE, 3, 2, 0);
            Worlds.say(x, EXIT, 1, 0, d);
            exit(x, 0, opposite, 1, NONE, 3, 1);
            x.unsay(2);
            Worlds.say(x, EXIT, 1, 0, opposite);
            exit(x, 1, opposite, 0, NONE, 4, 0);
            exit(x, 0, d, 1, NONE, 0, 0);
        }
    }

    private static void impliedByTheFirst() {
        due.sentence(0, "of several such SENTENCES the first is it");
        TalePlay x = Worlds.rooms(4, 0);
        Worlds.say(x, EXIT, 2, 3, 0);
        Worlds.say(x, EXIT, 1, 3, 0);
        Worlds.say(x, EXIT, 0, 3, 0);
        exit(x, 3, 1, 2, NONE, 0, 1);
        x.unsay(0);
        exit(x, 3, 1, 1, NONE, 1, 1);
        Worlds.say(x, EXIT, 2, 3, 0);
        exit(x, 3, 1, 1, NONE, 1, 1);
        x.unsay(1);
        exit(x, 3, 1, 0, NONE, 2, 1);
        x.unsay(2);
        exit(x, 3, 1, 2, NONE, 3, 1);
        x.unsay(3);
        exit(x, 3, 1, NONE, NONE, NONE, NONE);
    }

    private static void exitsToItself() {
        due.sentence(0, "if a SENTENCE says an EXIT of a by c to ROOM b");
        TalePlay x = Worlds.rooms(1, 0);
        Worlds.say(x, EXIT, 0, 0, 4);
        exit(x, 0, 4, 0, NONE, 0, 0);
        exit(x, 0, 5, 0, NONE, 0, 1);
        due.be("way(0, 0, true)", x.way(0, 0, true), 0);
        due.be("toward(0, 0, true)", x.toward(0, 0, true), NONE);
        Worlds.say(x, EXIT, 0, 0, 5);
        exit(x, 0, 5, 0, NONE, 1, 0);
    }

    private static void flagsInTales() {
        due.sentence(16, "What a FLAG of an OBJECT is SAID to be");
        TalePlay x = Worlds.roomAndMan();
        int box = Worlds.thing(x, 3, 1, IN, 0);
        x.begin(1);
        x.act(Worlds.UNCLOSE, box, 0);
        due.be("now(box, 2)", x.now(box, 2), 1);
        due.be("flag(box, OPEN)", x.flag(box, OPEN), 0);
        due.sentence(16, "UNLIKE: it can't have it");
        due.find("flag(0, OPEN)", x, x.flag(0, OPEN), Worlds.UNLIKE);
    }

    private static void keysAsSaid() {
        due.sentence(17, "THE KEY of a SHUTTER; NONE. BAD; UNLIKE");
        TalePlay x = Worlds.twelve();
        int[] kinds = {TalePlay.FINDING, TalePlay.FINDING, NONE, NONE, TalePlay.FINDING, TalePlay.FINDING};
        for (int o = 0; o < 6; o++) {
            due.be("key(" + o + ")", x.key(o), kinds[o]);
        }
        due.be("findings(UNLIKE)", x.findings(Worlds.UNLIKE), 4);
        int s = Worlds.say(x, KEY, 1, 2, 0);
        due.be("key(2)", x.key(2), 1);
        due.be("key(3)", x.key(3), NONE);
        x.unsay(s);
        due.be("key(2) unsaid", x.key(2), NONE);
    }

    private static void way(TalePlay x, int a, int b, boolean open, int way, int toward) {
        due.be("way(" + a + ", " + b + ", " + open + ")", x.way(a, b, open), way);
        due.be("toward(" + a + ", " + b + ", " + open + ")", x.toward(a, b, open), toward);
    }

    private static void waysByOpenDoors() {
        due.sentence(18, "open: DOORS that are SAID to be OPEN alone");
        TalePlay x = Worlds.rooms(3, 1);
        way(x, 0, 0, true, 0, NONE);
        way(x, 0, 1, false, NONE, NONE);
        Worlds.say(x, EXIT, 0, 3, 9);
        way(x, 0, 1, false, NONE, NONE);
        Worlds.say(x, EXIT, 1, 3, 0);
        way(x, 0, 1, false, 1, 9);
        way(x, 0, 1, true, NONE, NONE);
        int open = Worlds.say(x, FLAG, 3, OPEN, 1);
        way(x, 0, 1, true, 1, 9);
        way(x, 1, 0, true, 1, 0);
        x.unsay(open);
        way(x, 0, 1, true, NONE, NONE);
        x.standard(1, OPEN, 1);
        way(x, 0, 1, true, 1, 9);
        Worlds.say(x, FLAG, 3, LOCKED, 1);
        way(x, 0, 1, true, 1, 9);
        Worlds.say(x, FLAG, 3, OPEN, 0);
        way(x, 0, 1, true, NONE, NONE);
        way(x, 0, 1, false, 1, 9);
        Worlds.say(x, EXIT, 0, 2, 8);
        Worlds.say(x, EXIT, 2, 1, 7);
        way(x, 0, 1, true, 2, 8);
        way(x, 0, 1, false, 1, 9);
        way(x, 1, 0, true, 2, 6);
    }

    /** What an earlier walk came to is not on the way of the next one. */
    private static void waysFromElsewhere() {
        due.sentence(18, "How many EXITS it takes at least from a ROOM to another one");
        TalePlay x = Worlds.rooms(6, 0);
        Worlds.say(x, EXIT, 0, 1, 0);
        Worlds.say(x, EXIT, 1, 2, 0);
        Worlds.say(x, EXIT, 3, 4, 0);
        way(x, 0, 2, false, 2, 0);
        for (int far = 0; far < 3; far++) {
            way(x, 3, far, false, NONE, NONE);
            way(x, far, 3, false, NONE, NONE);
            way(x, far, 5, true, NONE, NONE);
            way(x, 5, far, true, NONE, NONE);
        }
        way(x, 3, 4, true, 1, 0);
    }

    private static void leastDirection() {
        due.sentence(19, "The least DIRECTION with which a shortest way begins; NONE: there is none, or it is the same ROOM");
        TalePlay x = Worlds.rooms(8, 0);
        int target = 7;
        for (int r = 1; r <= 3; r++) {
            Worlds.say(x, EXIT, 0, r, 10 - 2 * r);
            Worlds.say(x, EXIT, r, r + 3, 0);
        }
        Worlds.say(x, EXIT, 4, target, 2);
        way(x, 0, target, false, 3, 8);
        Worlds.say(x, EXIT, 6, target, 4);
        way(x, 0, target, false, 3, 4);
        Worlds.say(x, EXIT, 5, target, 6);
        way(x, 0, target, false, 3, 4);
        Worlds.say(x, EXIT, 1, target, 2);
        way(x, 0, target, false, 2, 8);
        Worlds.say(x, EXIT, 0, target, 9);
        way(x, 0, target, false, 1, 9);
        Worlds.say(x, EXIT, 0, target, 7);
        way(x, 0, target, false, 1, 7);
        way(x, target, target, false, 0, NONE);
    }
}
