/** Promises 10 to 19: sentences, clashes, the map. */
public final class SentencesTest {
    private static final int BAD = TalePlay.BAD, FULL = TalePlay.FULL, CLASH = TalePlay.CLASH, NONE = TalePlay.NONE;
    private static final int UNLIKE = 3;
    private static final int IN = 0, ON = 1, HELD = 2, WORN = 3, PART = 4, EXIT = 5, FLAG = 6, KEY = 7;
    private static final Due due = new Due("SentencesTest");

    public static void main(String[] args) {
        badSentences();
        unlikeSentences();
        sameSentences();
        fullBook();
        placeClashes();
        chainClashes();
        wornClashes();
        exitClashes();
        flagClashes();
        keyClashes();
        unsaying();
        parts();
        places();
        exits();
        impliedExits();
        flags();
        keys();
        ways();
        waysThroughDoors();
        due.done();
    }

    /** Objects 0 to 5, one of each kind, and 6 to 11 likewise. */
    private static TalePlay twelve() {
        TalePlay x = new TalePlay();
        for (int o = 0; o < 12; o++) {
            x.make(o % 6, o);
        }
        return x;
    }

    private static TalePlay rooms(int rooms, int doors) {
        TalePlay x = new TalePlay();
        for (int o = 0; o < rooms + doors; o++) {
            x.make(o < rooms ? 0 : 2, 1);
        }
        return x;
    }

    private static void clashIs(TalePlay x, String call, int got, int... row) {
        due.be(call, got, CLASH);
        for (int i = 0; i < row.length; i++) {
            due.be("clash(" + i + ") of " + call, x.clash(i), row[i]);
        }
        due.be("the end of clash of " + call, x.clash(row.length), NONE);
        due.be("clash(-1) of " + call, x.clash(-1), NONE);
    }

    private static void badSentences() {
        TalePlay x = twelve();
        due.be("say(-1, ..)", x.say(-1, 1, 0, 0), BAD);
        due.be("say(8, ..)", x.say(8, 1, 0, 0), BAD);
        for (int form = IN; form <= KEY; form++) {
            due.be("say(form, 12, ..)", x.say(form, 12, 0, 0), BAD);
            due.be("say(form, -1, ..)", x.say(form, -1, 0, 0), BAD);
            due.be("say(form, 1, 12, ..)", x.say(form, 1, 12, 0), BAD);
            due.be("say(form, 1, -1, ..)", x.say(form, 1, -1, 0), BAD);
        }
        due.be("say(EXIT, 0, 6, 10)", x.say(EXIT, 0, 6, 10), BAD);
        due.be("say(EXIT, 0, 6, -1)", x.say(EXIT, 0, 6, -1), BAD);
        due.be("say(EXIT, 1, 6, 10): BAD ahead of UNLIKE", x.say(EXIT, 1, 6, 10), BAD);
        due.be("say(FLAG, 0, 6, 1)", x.say(FLAG, 0, 6, 1), BAD);
        due.be("say(FLAG, 0, -1, 1)", x.say(FLAG, 0, -1, 1), BAD);
        due.be("say(FLAG, 0, 2, 2)", x.say(FLAG, 0, 2, 2), BAD);
        due.be("say(FLAG, 0, 2, -9)", x.say(FLAG, 0, 2, NONE), BAD);
        due.be("say(FLAG, 0, 0, 2): BAD ahead of UNLIKE", x.say(FLAG, 0, 0, 2), BAD);
        due.be("count(3)", x.count(3), 0);
        due.be("findings(UNLIKE)", x.findings(UNLIKE), 0);
    }

    /** Which sorts a and b may be of, by forms. */
    private static void unlikeSentences() {
        String[][] fit = {{"1345", "03"}, {"1345", "4"}, {"134", "5"}, {"134", "5"}, {"134", "12345"}, {"0", "02"}};
        for (int form = IN; form <= EXIT; form++) {
            for (int a = 0; a < 6; a++) {
                for (int b = 6; b < 12; b++) {
                    fitting(form, a, b, fit[form][0].indexOf('0' + a) >= 0 && fit[form][1].indexOf('0' + b - 6) >= 0);
                }
            }
        }
        for (int a = 0; a < 6; a++) {
            for (int b = 6; b < 12; b++) {
                fitting(KEY, a, b, "134".indexOf('0' + a) >= 0 && (b == 8 || b == 9));
            }
        }
        String[] flagged = {"23", "23", "012345", "1345", "134", "3"};
        for (int a = 0; a < 6; a++) {
            for (int f = 0; f < 6; f++) {
                fitting(FLAG, a, f, flagged[f].indexOf('0' + a) >= 0);
            }
        }
    }

    private static void fitting(int form, int a, int b, boolean fits) {
        TalePlay x = twelve();
        String call = "say(" + form + ", " + a + ", " + b + ", 0)";
        if (fits) {
            due.be(call, x.say(form, a, b, 0), 0);
        } else {
            due.find(call, x, x.say(form, a, b, 0), UNLIKE);
            due.be("count(3) behind " + call, x.count(3), 0);
        }
    }

    private static void sameSentences() {
        TalePlay x = twelve();
        due.be("say(IN, 5, 0, 77)", x.say(IN, 5, 0, 77), 0);
        due.be("its c", x.sentence(0, 3), 0);
        due.be("say(IN, 5, 0, -4) again", x.say(IN, 5, 0, -4), 0);
        due.be("say(KEY, 1, 2, 5)", x.say(KEY, 1, 2, 5), 1);
        due.be("say(KEY, 1, 2, 6)", x.say(KEY, 1, 2, 6), 1);
        due.be("say(EXIT, 0, 6, 3)", x.say(EXIT, 0, 6, 3), 2);
        due.be("say(EXIT, 0, 6, 4)", x.say(EXIT, 0, 6, 4), 3);
        due.be("say(EXIT, 0, 6, 3) again", x.say(EXIT, 0, 6, 3), 2);
        due.be("say(FLAG, 2, 0, 1)", x.say(FLAG, 2, 0, 1), 4);
        due.be("say(FLAG, 2, 0, 1) again", x.say(FLAG, 2, 0, 1), 4);
        due.be("begin(5)", x.begin(5), 0);
        due.be("say(FLAG, 2, 0, 1) in a tale", x.say(FLAG, 2, 0, 1), 4);
        due.be("light() in it still", x.light(), 1);
        due.be("unsay(4)", x.unsay(4), 4);
        due.be("light() in none", x.light(), TalePlay.STATE);
        due.be("say(FLAG, 2, 0, 1) anew", x.say(FLAG, 2, 0, 1), 5);
    }

    private static void fullBook() {
        TalePlay x = twelve();
        for (int s = 0; s < 200; s++) {
            due.be("say " + s, x.say(FLAG, 1, 2, 1), s);
            if (s < 199) {
                due.be("unsay " + s, x.unsay(s), 0);
            }
        }
        due.be("say(FLAG, 1, 2, 0) of 200: FULL ahead of CLASH", x.say(FLAG, 1, 2, 0), FULL);
        due.be("clash(0) of FULL", x.clash(0), NONE);
        due.be("say(FLAG, 1, 2, 1) of 200, it is there", x.say(FLAG, 1, 2, 1), 199);
        due.be("say(FLAG, 1, 9, 1) of 200", x.say(FLAG, 1, 9, 1), BAD);
        due.find("say(FLAG, 1, 0, 1) of 200: UNLIKE ahead of FULL", x, x.say(FLAG, 1, 0, 1), UNLIKE);
        due.be("count(3)", x.count(3), 200);
        due.be("count(2)", x.count(2), 1);
    }

    private static void placeClashes() {
        TalePlay x = twelve();
        due.be("say(IN, 1, 0, 0)", x.say(IN, 1, 0, 0), 0);
        clashIs(x, "say(IN, 1, 6, 0)", x.say(IN, 1, 6, 0), 0);
        clashIs(x, "say(ON, 1, 4, 0)", x.say(ON, 1, 4, 0), 0);
        clashIs(x, "say(HELD, 1, 5, 0)", x.say(HELD, 1, 5, 0), 0);
        clashIs(x, "say(WORN, 1, 5, 0)", x.say(WORN, 1, 5, 0), 0);
        clashIs(x, "say(PART, 1, 2, 0)", x.say(PART, 1, 2, 0), 0);
        due.be("say(IN, 1, 0, 0) again", x.say(IN, 1, 0, 0), 0);
        due.be("clash(0) of one that is there", x.clash(0), NONE);
        due.be("say(HELD, 7, 5, 0)", x.say(HELD, 7, 5, 0), 1);
        clashIs(x, "say(WORN, 7, 5, 0): of another form", x.say(WORN, 7, 5, 0), 1);
        due.be("unsay(1)", x.unsay(1), 1);
        due.be("clash(0) stays", x.clash(0), 1);
        due.be("say(WORN, 7, 5, 0)", x.say(WORN, 7, 5, 0), 2);
        due.be("clash(0) of one that is said", x.clash(0), NONE);
        clashIs(x, "say(HELD, 7, 5, 0)", x.say(HELD, 7, 5, 0), 2);
        due.be("say(9, ..)", x.say(9, 0, 0, 0), BAD);
        due.be("clash(0) of a bad one", x.clash(0), NONE);
        clashIs(x, "say(HELD, 7, 11, 0)", x.say(HELD, 7, 11, 0), 2);
        due.find("say(IN, 0, 0, 0)", x, x.say(IN, 0, 0, 0), UNLIKE);
        due.be("clash(0) of an unlike one", x.clash(0), NONE);
        due.be("count(3)", x.count(3), 3);
    }

    private static void chainClashes() {
        TalePlay x = new TalePlay();
        int box = x.make(3, 1);
        int stand = x.make(4, 1);
        int man = x.make(5, 1);
        int cup = x.make(1, 1);
        int bag = x.make(3, 1);
        clashIs(x, "say(IN, box, box, 0)", x.say(IN, box, box, 0));
        clashIs(x, "say(PART, cup, cup, 0)", x.say(PART, cup, cup, 0));
        due.be("say(PART, bag, cup, 0)", x.say(PART, bag, cup, 0), 0);
        due.be("say(ON, man, stand, 0)", x.say(ON, man, stand, 0), 1);
        due.be("say(HELD, cup, man, 0)", x.say(HELD, cup, man, 0), 2);
        due.be("say(IN, stand, box, 0)", x.say(IN, stand, box, 0), 3);
        clashIs(x, "say(IN, box, bag, 0)", x.say(IN, box, bag, 0), 0, 2, 1, 3);
        clashIs(x, "say(PART, box, cup, 0)", x.say(PART, box, cup, 0), 2, 1, 3);
        clashIs(x, "say(WORN, box, man, 0)", x.say(WORN, box, man, 0), 1, 3);
        clashIs(x, "say(ON, box, stand, 0)", x.say(ON, box, stand, 0), 3);
        clashIs(x, "say(IN, stand, bag, 0): its own place first", x.say(IN, stand, bag, 0), 3);
        due.be("unsay(1)", x.unsay(1), 3);
        due.be("say(IN, box, bag, 0): no longer", x.say(IN, box, bag, 0), 4);
        clashIs(x, "say(ON, man, stand, 0): what he holds is around it", x.say(ON, man, stand, 0), 3, 4, 0, 2);
    }

    private static void wornClashes() {
        TalePlay x = twelve();
        due.be("say(FLAG, 1, 4, 0)", x.say(FLAG, 1, 4, 0), 0);
        clashIs(x, "say(WORN, 1, 5, 0)", x.say(WORN, 1, 5, 0), 0);
        due.be("say(HELD, 1, 5, 0)", x.say(HELD, 1, 5, 0), 1);
        clashIs(x, "say(WORN, 1, 5, 0): the place first", x.say(WORN, 1, 5, 0), 1);
        due.be("unsay(1)", x.unsay(1), 1);
        due.be("unsay(0)", x.unsay(0), 0);
        due.be("say(WORN, 1, 5, 0): a default does not clash", x.say(WORN, 1, 5, 0), 2);
        clashIs(x, "say(FLAG, 1, 4, 0)", x.say(FLAG, 1, 4, 0), 2);
        due.be("say(FLAG, 1, 4, 1)", x.say(FLAG, 1, 4, 1), 3);
        clashIs(x, "say(FLAG, 1, 4, 0): the flag first", x.say(FLAG, 1, 4, 0), 3);
    }

    private static void exitClashes() {
        TalePlay x = rooms(4, 2);
        due.be("say(EXIT, 0, 1, 2)", x.say(EXIT, 0, 1, 2), 0);
        clashIs(x, "say(EXIT, 0, 2, 2)", x.say(EXIT, 0, 2, 2), 0);
        clashIs(x, "say(EXIT, 0, 4, 2)", x.say(EXIT, 0, 4, 2), 0);
        due.be("say(EXIT, 0, 1, 3): rooms may be there twice", x.say(EXIT, 0, 1, 3), 1);
        due.be("say(EXIT, 1, 2, 3): an implied one does not clash", x.say(EXIT, 1, 2, 3), 2);
        due.be("say(EXIT, 0, 4, 0)", x.say(EXIT, 0, 4, 0), 3);
        clashIs(x, "say(EXIT, 0, 4, 5)", x.say(EXIT, 0, 4, 5), 3);
        clashIs(x, "say(EXIT, 0, 4, 2): the direction first", x.say(EXIT, 0, 4, 2), 0);
        due.be("say(EXIT, 3, 4, 7)", x.say(EXIT, 3, 4, 7), 4);
        due.be("clash(0) of a second side", x.clash(0), NONE);
        clashIs(x, "say(EXIT, 1, 4, 5)", x.say(EXIT, 1, 4, 5), 3, 4);
        clashIs(x, "say(EXIT, 3, 4, 1)", x.say(EXIT, 3, 4, 1), 4);
        due.be("unsay(3)", x.unsay(3), 4);
        due.be("say(EXIT, 1, 4, 5)", x.say(EXIT, 1, 4, 5), 5);
        clashIs(x, "say(EXIT, 0, 4, 0)", x.say(EXIT, 0, 4, 0), 4, 5);
        due.be("say(EXIT, 0, 5, 0)", x.say(EXIT, 0, 5, 0), 6);
        due.be("say(EXIT, 2, 2, 0): to itself", x.say(EXIT, 2, 2, 0), 7);
        TalePlay y = rooms(3, 1);
        due.be("say(EXIT, 0, 3, 0)", y.say(EXIT, 0, 3, 0), 0);
        due.be("say(EXIT, 1, 3, 0)", y.say(EXIT, 1, 3, 0), 1);
        exitIs(y, 0, 0, 1, 3, 0, 0);
        exitIs(y, 1, 0, 0, 3, 1, 0);
        clashIs(y, "say(EXIT, 2, 3, 0)", y.say(EXIT, 2, 3, 0), 0, 1);
    }

    private static void flagClashes() {
        TalePlay x = twelve();
        due.be("say(FLAG, 3, 0, 1)", x.say(FLAG, 3, 0, 1), 0);
        clashIs(x, "say(FLAG, 3, 0, 0)", x.say(FLAG, 3, 0, 0), 0);
        clashIs(x, "say(FLAG, 3, 1, 1)", x.say(FLAG, 3, 1, 1), 0);
        due.be("say(FLAG, 3, 1, 0)", x.say(FLAG, 3, 1, 0), 1);
        clashIs(x, "say(FLAG, 3, 1, 1): the flag first", x.say(FLAG, 3, 1, 1), 1);
        due.be("say(FLAG, 9, 1, 1)", x.say(FLAG, 9, 1, 1), 2);
        clashIs(x, "say(FLAG, 9, 0, 1)", x.say(FLAG, 9, 0, 1), 2);
        due.be("say(FLAG, 9, 0, 0)", x.say(FLAG, 9, 0, 0), 3);
        due.be("say(FLAG, 2, 0, 0)", x.say(FLAG, 2, 0, 0), 4);
        due.be("say(FLAG, 2, 1, 1)", x.say(FLAG, 2, 1, 1), 5);
        due.be("say(FLAG, 0, 2, 0)", x.say(FLAG, 0, 2, 0), 6);
        clashIs(x, "say(FLAG, 0, 2, 1)", x.say(FLAG, 0, 2, 1), 6);
        due.be("say(FLAG, 6, 2, 1): of another", x.say(FLAG, 6, 2, 1), 7);
    }

    private static void keyClashes() {
        TalePlay x = twelve();
        due.be("say(KEY, 1, 2, 0)", x.say(KEY, 1, 2, 0), 0);
        clashIs(x, "say(KEY, 7, 2, 0)", x.say(KEY, 7, 2, 0), 0);
        due.be("say(KEY, 1, 3, 0): of another, too", x.say(KEY, 1, 3, 0), 1);
        due.be("say(KEY, 9, 9, 0): of itself", x.say(KEY, 9, 9, 0), 2);
        due.be("unsay(0)", x.unsay(0), 2);
        due.be("say(KEY, 7, 2, 0)", x.say(KEY, 7, 2, 0), 3);
    }

    private static void unsaying() {
        TalePlay x = twelve();
        due.be("unsay(0) of none", x.unsay(0), BAD);
        due.be("unsay(-1)", x.unsay(-1), BAD);
        x.say(IN, 1, 0, 0);
        x.say(IN, 7, 0, 0);
        x.say(EXIT, 0, 6, 0);
        due.be("unsay(3)", x.unsay(3), BAD);
        due.be("unsay(2)", x.unsay(2), 2);
        due.be("exit(6, 1, 0)", x.exit(6, 1, 0), NONE);
        due.be("exit(0, 0, 0)", x.exit(0, 0, 0), NONE);
        wayIs(x, 0, 6, false, NONE, NONE);
        wayIs(x, 6, 0, false, NONE, NONE);
        due.be("unsay(0)", x.unsay(0), 1);
        due.be("unsay(0) again", x.unsay(0), BAD);
        due.be("place(1, 0)", x.place(1, 0), NONE);
        due.be("place(7, 2)", x.place(7, 2), 1);
        due.be("count(2)", x.count(2), 1);
        due.be("count(3)", x.count(3), 3);
        x.say(EXIT, 0, 2, 4);
        x.unsay(3);
        x.say(EXIT, 0, 6, 4);
        exitIs(x, 0, 4, 6, NONE, 4, 0);
        wayIs(x, 0, 6, true, 1, 4);
    }

    private static void parts() {
        TalePlay x = twelve();
        x.say(EXIT, 0, 6, 7);
        x.say(FLAG, 3, 5, 1);
        x.say(KEY, 1, 3, 9);
        x.unsay(0);
        int[][] want = {{EXIT, 0, 6, 7, 0}, {FLAG, 3, 5, 1, 1}, {KEY, 1, 3, 0, 1}};
        for (int s = 0; s < 3; s++) {
            for (int what = 0; what < 5; what++) {
                due.be("sentence(" + s + ", " + what + ")", x.sentence(s, what), want[s][what]);
            }
        }
        due.be("sentence(3, 0)", x.sentence(3, 0), BAD);
        due.be("sentence(-1, 0)", x.sentence(-1, 0), BAD);
        due.be("sentence(0, 5)", x.sentence(0, 5), BAD);
        due.be("sentence(0, -1)", x.sentence(0, -1), BAD);
    }

    private static void placeIs(TalePlay x, int object, int form, int where, int sentence) {
        due.be("place(" + object + ", 0)", x.place(object, 0), form);
        due.be("place(" + object + ", 1)", x.place(object, 1), where);
        due.be("place(" + object + ", 2)", x.place(object, 2), sentence);
    }

    private static void places() {
        TalePlay x = twelve();
        x.say(IN, 5, 0, 0);
        x.say(ON, 3, 4, 0);
        x.say(HELD, 1, 5, 0);
        x.say(WORN, 7, 5, 0);
        x.say(PART, 9, 2, 0);
        placeIs(x, 5, IN, 0, 0);
        placeIs(x, 3, ON, 4, 1);
        placeIs(x, 1, HELD, 5, 2);
        placeIs(x, 7, WORN, 5, 3);
        placeIs(x, 9, PART, 2, 4);
        placeIs(x, 0, NONE, NONE, NONE);
        placeIs(x, 2, NONE, NONE, NONE);
        due.be("begin(5)", x.begin(5), 0);
        due.be("act(2, 1, 0)", x.act(2, 1, 0), 0);
        placeIs(x, 1, HELD, 5, 2);
        due.be("place(12, 0)", x.place(12, 0), BAD);
        due.be("place(-1, 0)", x.place(-1, 0), BAD);
        due.be("place(1, 3)", x.place(1, 3), BAD);
        due.be("place(1, -1)", x.place(1, -1), BAD);
    }

    private static void exitIs(TalePlay x, int room, int d, int... want) {
        for (int what = 0; what < 4; what++) {
            due.be("exit(" + room + ", " + d + ", " + what + ")", x.exit(room, d, what), want[what]);
        }
    }

    private static void exits() {
        TalePlay x = rooms(3, 1);
        exitIs(x, 0, 0, NONE, NONE, NONE, NONE);
        x.say(EXIT, 0, 1, 2);
        exitIs(x, 0, 2, 1, NONE, 0, 0);
        exitIs(x, 1, 3, 0, NONE, 0, 1);
        exitIs(x, 1, 2, NONE, NONE, NONE, NONE);
        x.say(EXIT, 0, 3, 9);
        exitIs(x, 0, 9, NONE, 3, 1, 0);
        exitIs(x, 1, 8, NONE, NONE, NONE, NONE);
        x.say(EXIT, 2, 3, 0);
        exitIs(x, 0, 9, 2, 3, 1, 0);
        exitIs(x, 2, 0, 0, 3, 2, 0);
        x.unsay(1);
        exitIs(x, 2, 0, NONE, 3, 2, 0);
        exitIs(x, 0, 9, NONE, NONE, NONE, NONE);
        x.say(EXIT, 1, 3, 4);
        exitIs(x, 2, 0, 1, 3, 2, 0);
        exitIs(x, 1, 4, 2, 3, 3, 0);
        due.find("exit(3, 0, 0)", x, x.exit(3, 0, 0), UNLIKE);
        due.be("exit(4, 0, 0)", x.exit(4, 0, 0), BAD);
        due.be("exit(-1, 0, 0)", x.exit(-1, 0, 0), BAD);
        due.be("exit(0, 10, 0)", x.exit(0, 10, 0), BAD);
        due.be("exit(0, -1, 0)", x.exit(0, -1, 0), BAD);
        due.be("exit(0, 0, 4)", x.exit(0, 0, 4), BAD);
        due.be("exit(0, 0, -1)", x.exit(0, 0, -1), BAD);
        due.be("exit(3, 10, 0): BAD ahead of UNLIKE", x.exit(3, 10, 0), BAD);
    }

    private static void impliedExits() {
        TalePlay x = rooms(4, 1);
        x.say(EXIT, 0, 3, 4);
        x.say(EXIT, 1, 3, 4);
        exitIs(x, 3, 5, 0, NONE, 0, 1);
        x.say(EXIT, 3, 2, 5);
        exitIs(x, 3, 5, 2, NONE, 2, 0);
        exitIs(x, 2, 4, 3, NONE, 2, 1);
        x.unsay(0);
        exitIs(x, 3, 5, 2, NONE, 2, 0);
        x.unsay(2);
        exitIs(x, 3, 5, 1, NONE, 1, 1);
        exitIs(x, 2, 4, NONE, NONE, NONE, NONE);
        x.say(EXIT, 0, 3, 4);
        exitIs(x, 3, 5, 1, NONE, 1, 1);
        x.say(EXIT, 3, 4, 5);
        exitIs(x, 3, 5, NONE, 4, 4, 0);
        x.say(EXIT, 2, 2, 6);
        exitIs(x, 2, 6, 2, NONE, 5, 0);
        exitIs(x, 2, 7, 2, NONE, 5, 1);
        for (int d = 0; d < 10; d++) {
            TalePlay two = rooms(2, 0);
            two.say(EXIT, 0, 1, d);
            int opposite = d % 2 == 0 ? d + 1 : d - 1;
            for (int other = 0; other < 10; other++) {
                due.be("exit(1, other, 0) of " + d, two.exit(1, other, 0), other == opposite ? 0 : NONE);
            }
        }
    }

    private static void flags() {
        TalePlay x = twelve();
        String[] fit = {"23", "23", "012345", "1345", "134", "3"};
        for (int o = 0; o < 6; o++) {
            for (int f = 0; f < 6; f++) {
                String call = "flag(" + o + ", " + f + ")";
                if (fit[f].indexOf('0' + o) >= 0) {
                    due.be(call, x.flag(o, f), o == 0 ? 1 : 0);
                    x.say(FLAG, o, f, o == 0 ? 0 : 1);
                    boolean locked = f == 1;
                    due.be(call + " as said", x.flag(o, f), o == 0 || locked ? 0 : 1);
                } else {
                    due.find(call, x, x.flag(o, f), UNLIKE);
                }
            }
        }
        due.be("flag(12, 0)", x.flag(12, 0), BAD);
        due.be("flag(-1, 0)", x.flag(-1, 0), BAD);
        due.be("flag(0, 6)", x.flag(0, 6), BAD);
        due.be("flag(0, -1)", x.flag(0, -1), BAD);
        TalePlay y = new TalePlay();
        int den = y.kind(0);
        int cave = y.make(den, 0);
        int thing = y.make(1, 0);
        due.be("flag(cave, LIT)", y.flag(cave, 2), 1);
        y.standard(1, 2, 1);
        due.be("flag(thing, LIT) by default", y.flag(thing, 2), 1);
        due.be("flag(cave, LIT) still", y.flag(cave, 2), 1);
        y.standard(den, 2, 0);
        due.be("flag(cave, LIT) by default", y.flag(cave, 2), 0);
    }

    private static void keys() {
        TalePlay x = twelve();
        due.be("key(2)", x.key(2), NONE);
        due.be("key(3)", x.key(3), NONE);
        x.say(KEY, 1, 2, 0);
        x.say(KEY, 4, 3, 0);
        due.be("key(2)", x.key(2), 1);
        due.be("key(3)", x.key(3), 4);
        x.unsay(0);
        due.be("key(2) unsaid", x.key(2), NONE);
        due.find("key(0)", x, x.key(0), UNLIKE);
        due.find("key(1)", x, x.key(1), UNLIKE);
        due.find("key(4)", x, x.key(4), UNLIKE);
        due.find("key(5)", x, x.key(5), UNLIKE);
        due.be("key(12)", x.key(12), BAD);
        due.be("key(-1)", x.key(-1), BAD);
    }

    private static void wayIs(TalePlay x, int a, int b, boolean open, int way, int toward) {
        due.be("way(" + a + ", " + b + ", " + open + ")", x.way(a, b, open), way);
        due.be("toward(" + a + ", " + b + ", " + open + ")", x.toward(a, b, open), toward);
    }

    private static void ways() {
        TalePlay x = rooms(6, 1);
        wayIs(x, 0, 0, false, 0, NONE);
        wayIs(x, 0, 1, false, NONE, NONE);
        x.say(EXIT, 0, 1, 8);
        x.say(EXIT, 0, 2, 6);
        x.say(EXIT, 1, 3, 0);
        x.say(EXIT, 2, 3, 2);
        x.say(EXIT, 3, 4, 4);
        wayIs(x, 0, 3, false, 2, 6);
        wayIs(x, 0, 4, false, 3, 6);
        wayIs(x, 4, 0, false, 3, 5);
        wayIs(x, 3, 0, false, 2, 1);
        wayIs(x, 0, 5, false, NONE, NONE);
        wayIs(x, 5, 0, false, NONE, NONE);
        x.say(EXIT, 0, 4, 9);
        wayIs(x, 0, 4, false, 1, 9);
        wayIs(x, 0, 3, false, 2, 6);
        x.say(EXIT, 3, 5, 5);
        wayIs(x, 3, 5, false, 1, 5);
        wayIs(x, 5, 3, false, 1, 4);
        due.find("way(6, 0, true)", x, x.way(6, 0, true), UNLIKE);
        due.find("way(0, 6, true)", x, x.way(0, 6, true), UNLIKE);
        due.find("toward(6, 0, true)", x, x.toward(6, 0, true), UNLIKE);
        due.find("toward(0, 6, true)", x, x.toward(0, 6, true), UNLIKE);
        due.be("way(7, 6, true)", x.way(7, 6, true), BAD);
        due.be("way(6, -1, true)", x.way(6, -1, true), BAD);
        due.be("toward(-1, 6, true)", x.toward(-1, 6, true), BAD);
        due.be("toward(6, 7, true)", x.toward(6, 7, true), BAD);
        TalePlay oneWay = rooms(3, 0);
        oneWay.say(EXIT, 0, 1, 0);
        oneWay.say(EXIT, 1, 2, 1);
        wayIs(oneWay, 0, 1, false, 1, 0);
        wayIs(oneWay, 1, 0, false, NONE, NONE);
        wayIs(oneWay, 2, 1, false, 1, 0);
    }

    private static void waysThroughDoors() {
        TalePlay x = rooms(3, 2);
        int near = 3;
        int far = 4;
        x.say(EXIT, 0, near, 4);
        wayIs(x, 0, 1, false, NONE, NONE);
        x.say(EXIT, 1, near, 4);
        wayIs(x, 0, 1, false, 1, 4);
        wayIs(x, 1, 0, false, 1, 4);
        wayIs(x, 0, 1, true, NONE, NONE);
        x.say(EXIT, 0, 2, 7);
        x.say(EXIT, 2, 1, 7);
        wayIs(x, 0, 1, true, 2, 7);
        wayIs(x, 0, 1, false, 1, 4);
        x.standard(2, 0, 1);
        wayIs(x, 0, 1, true, 1, 4);
        x.say(FLAG, near, 0, 0);
        wayIs(x, 0, 1, true, 2, 7);
        x.say(EXIT, 0, far, 2);
        x.say(EXIT, 1, far, 0);
        wayIs(x, 0, 1, true, 1, 2);
        wayIs(x, 1, 0, true, 1, 0);
        wayIs(x, 0, 1, false, 1, 2);
        TalePlay tale = rooms(2, 1);
        int man = tale.make(5, 1);
        tale.say(IN, man, 0, 0);
        tale.say(EXIT, 0, 2, 0);
        tale.say(EXIT, 1, 2, 1);
        tale.begin(man);
        due.be("act OPEN the door", tale.act(5, 2, 0), 0);
        wayIs(tale, 0, 1, true, NONE, NONE);
        due.be("flag of the door as said", tale.flag(2, 0), 0);
    }
}
