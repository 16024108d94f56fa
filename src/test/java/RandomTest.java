import java.util.ArrayList;
import java.util.List;
import java.util.Random;

/**
 * Runs of up to 512 calls, drawn from fixed seeds, on TalePlay and on PlainTale at once: each answer must be the same.
 * With a number as its argument it makes so many runs, with a second one from that seed on.
 */
public final class RandomTest {
    private static final int CALLS = 512;
    private final TalePlay x = new TalePlay();
    private final PlainTale p = new PlainTale();
    private final Random random;
    private final List<String> calls = new ArrayList<>();
    private boolean wrong = false;
    private final int[] keys = new int[30];
    private static final int[] reasons = new int[32];
    private static final int[] plays = new int[32];

    private RandomTest(long seed) {
        random = new Random(seed);
    }

    public static void main(String[] args) {
        int runs = args.length > 0 ? Integer.parseInt(args[0]) : 120;
        int first = args.length > 1 ? Integer.parseInt(args[1]) : 0;
        int failed = 0;
        for (int seed = first; seed < first + runs && failed < 3; seed++) {
            RandomTest test = new RandomTest(seed);
            test.play(seed % 4);
            if (test.wrong) {
                failed++;
                System.out.println("seed " + seed);
                for (String call : test.calls) {
                    System.out.println("  " + call);
                }
            }
        }
        System.out.println("RandomTest: " + runs + " runs, " + failed + " not as due");
        System.out.println("acts by their answers: " + java.util.Arrays.toString(reasons));
        System.out.println("plays by their lengths (0: none): " + java.util.Arrays.toString(plays));
        for (int reason = 0; reason <= 21; reason++) {
            if (reasons[reason] == 0) {
                System.out.println("no act was answered by " + reason);
                failed++;
            }
        }
        if (failed > 0) {
            System.exit(1);
        }
    }

    private int n(int bound) {
        return random.nextInt(bound);
    }

    private boolean chance(int percent) {
        return n(100) < percent;
    }

    /** Mostly an object that there is, now and then none. */
    private int object() {
        int objects = x.count(1);
        return objects == 0 || chance(2) ? n(33) - 2 : n(objects);
    }

    private int objectOf(int kind) {
        for (int tries = 0; tries < 12; tries++) {
            int o = object();
            if (x.is(o, kind) == 1) {
                return o;
            }
        }
        return object();
    }

    private boolean ended() {
        return wrong || calls.size() >= CALLS;
    }

    private long same(String call, long got, long want) {
        calls.add(call + " -> " + got);
        if (got != want) {
            wrong = true;
            calls.add("   but due is " + want);
        }
        return got;
    }

    /** Styles: 0 few objects, 1 many, 2 hardly anything but acts, 3 any call whatever. */
    private void play(int style) {
        if (style < 3) {
            buildWorld(style);
        }
        while (!ended()) {
            if (style == 3) {
                anyCall(n(38));
            } else if (chance(style == 2 ? 97 : 85)) {
                taleCall();
            } else {
                anyCall(n(38));
            }
            if (chance(5) && !ended()) {
                same("digest()", x.digest(), p.digest());
            }
        }
    }

    private void make(int kind, int size) {
        same("make(" + kind + ", " + size + ")", x.make(kind, size), p.make(kind, size));
    }

    private int say(int form, int a, int b, int c) {
        int got = (int) same("say(" + form + ", " + a + ", " + b + ", " + c + ")", x.say(form, a, b, c),
                p.say(form, a, b, c));
        if (got >= 0 && form == 7) {
            keys[b] = a;
        }
        if (got == TalePlay.CLASH) {
            for (int i = 0; i < 4; i++) {
                same("clash(" + i + ")", x.clash(i), p.clash(i));
            }
        }
        return got;
    }

    private void buildWorld(int style) {
        int rooms = 1 + n(4);
        int more = style == 1 ? 14 + n(12) : 4 + n(6);
        for (int k = n(4); k > 0; k--) {
            int parent = 1 + n(5);
            same("kind(" + parent + ")", x.kind(parent), p.kind(parent));
        }
        for (int r = 0; r < rooms; r++) {
            make(0, 0);
        }
        make(5, n(60));
        int man = x.count(1) - 1;
        say(0, man, n(rooms), 0);
        for (int o = 0; o < more; o++) {
            int kind = chance(25) ? 1 : chance(40) ? 3 : chance(50) ? 4 : chance(40) ? 2 : chance(30) ? 5 : n(x.count(0));
            make(kind, chance(70) ? n(12) : n(100));
        }
        for (int k = 0; k < 6; k++) {
            if (chance(20)) {
                standard();
            }
        }
        if (chance(30)) {
            same("standard(3, 5, 1)", x.standard(3, 5, 1), p.standard(3, 5, 1));
        }
        if (chance(30)) {
            say(6, x.place(man, 1), 2, 0);
        }
        if (chance(20)) {
            crowd(man);
        }
        for (int o = man + 1; o < x.count(1); o++) {
            somePlace(o);
            someFlags(o);
        }
        for (int i = 0; i < 3 * rooms; i++) {
            say(5, n(rooms), chance(50) ? n(rooms) : objectOf(2), n(10));
        }
        begin(man);
    }

    /** Fills a box or a stand that the person sees, nearly or wholly. */
    private void crowd(int man) {
        int kind = 3 + n(2);
        make(kind, 1);
        int full = x.count(1) - 1;
        say(0, full, x.place(man, 1), 0);
        if (kind == 3) {
            say(6, full, 0, 1);
        }
        for (int i = 7 + n(3); i > 0; i--) {
            make(1, n(4));
            say(kind - 3, x.count(1) - 1, full, 0);
        }
    }

    private void somePlace(int o) {
        int form = n(10);
        if (form <= 2) {
            say(0, o, objectOf(0), 0);
        } else if (form <= 4) {
            say(0, o, objectOf(3), 0);
        } else if (form <= 6) {
            say(1, o, objectOf(4), 0);
        } else {
            say(form - 5, o, form == 9 ? object() : objectOf(5), 0);
        }
    }

    private void someFlags(int o) {
        if (chance(40)) {
            say(6, o, n(2), 1);
        }
        if (chance(25)) {
            say(6, o, 2 + n(4), n(2));
        }
        if (chance(30)) {
            say(7, object(), o, 0);
        }
    }

    private void begin(int person) {
        same("begin(" + person + ")", x.begin(person), p.begin(person));
    }

    private void standard() {
        int kind = n(x.count(0) + (chance(5) ? 1 : 0));
        int flag = chance(3) ? n(9) - 1 : n(6);
        int v = chance(5) ? n(5) - 2 : chance(30) ? TalePlay.NONE : n(2);
        same("standard(" + kind + ", " + flag + ", " + v + ")", x.standard(kind, flag, v), p.standard(kind, flag, v));
    }

    private void taleCall() {
        if (x.count(6) == TalePlay.NONE && chance(70)) {
            begin(objectOf(5));
        } else if (chance(70)) {
            act();
        } else if (chance(20)) {
            same("back()", x.back(), p.back());
        } else if (chance(25)) {
            seek();
        } else {
            int o = object();
            int what = chance(3) ? n(10) - 1 : n(7);
            same("now(" + o + ", " + what + ")", x.now(o, what), p.now(o, what));
        }
    }

    /** Mostly one of those that are seen: the looks change nothing. */
    private int inSight() {
        for (int tries = 0; tries < 12; tries++) {
            int o = object();
            if (x.now(o, 4) == 1) {
                return o;
            }
        }
        return object();
    }

    private int inHand() {
        for (int o = n(4); o < x.count(1); o += 1 + n(3)) {
            if (x.now(o, 0) == 2 && x.now(o, 1) == x.count(6)) {
                return o;
            }
        }
        return object();
    }

    private void act() {
        int verb = chance(2) ? n(16) - 1 : n(13);
        int a = chance(75) ? inSight() : object();
        int b = chance(75) ? inSight() : object();
        if (verb == 0) {
            a = chance(5) ? n(13) - 1 : n(10);
        }
        if (chance(60)) {
            a = verb >= 2 && verb <= 4 || verb == 9 ? inHand() : verb >= 5 && verb <= 8 ? shutter() : a;
            b = verb == 3 ? objectOf(3) : verb == 4 ? objectOf(4) : b;
        }
        if (chance(60) && verb >= 7 && a >= 0 && a < keys.length) {
            b = keys[a];
        }
        int got = (int) same("act(" + verb + ", " + a + ", " + b + ")", x.act(verb, a, b), p.act(verb, a, b));
        if (got >= 0) {
            reasons[got]++;
        }
    }

    private int shutter() {
        for (int tries = 0; tries < 12; tries++) {
            int o = inSight();
            if (x.now(o, 2) >= 0) {
                return o;
            }
        }
        return object();
    }

    private void seek() {
        int a = object();
        int b = chance(40) ? x.count(6) == TalePlay.NONE ? object() : x.count(6) : object();
        int most = chance(15) ? 300 : chance(10) ? n(310) - 5 : n(25);
        int got = (int) same("seek(" + a + ", " + b + ", " + most + ")", x.seek(a, b, most), p.seek(a, b, most));
        plays[got < 0 ? 0 : Math.min(31, got + 1)]++;
        same("count(7)", x.count(7), p.count(7));
        for (int i = 0; i < Math.min(got, 4); i++) {
            sought(got - 1 - i, n(3));
        }
    }

    private void sought(int i, int what) {
        same("sought(" + i + ", " + what + ")", x.sought(i, what), p.sought(i, what));
    }

    private void anyCall(int which) {
        int a = object();
        int b = object();
        int s = n(x.count(3) + 2) - (chance(5) ? 1 : 0);
        boolean open = chance(50);
        switch (which) {
            case 0 -> same("kind(" + (a % 8) + ")", x.kind(a % 8), p.kind(a % 8));
            case 1 -> standard();
            case 2 -> make(chance(3) ? n(30) - 2 : n(x.count(0)), chance(3) ? n(130) - 10 : n(30));
            case 3 -> same("is(" + a + ", " + b + ")", x.is(a, b % 9), p.is(a, b % 9));
            case 4 -> bulk(a);
            case 5 -> same("asked()", x.asked(), p.asked());
            case 6 -> same("trace(" + (a - 1) + ")", x.trace(a - 1), p.trace(a - 1));
            case 7 -> {
                same("share(" + a + ", " + b + ")", x.share(a, b), p.share(a, b));
                same("asked()", x.asked(), p.asked());
            }
            case 8, 9, 10 -> anySentence();
            case 11 -> same("unsay(" + s + ")", x.unsay(s), p.unsay(s));
            case 12 -> same("clash(" + (a % 5) + ")", x.clash(a % 5), p.clash(a % 5));
            case 13 -> same("sentence(" + s + ", ..)", x.sentence(s, b % 6), p.sentence(s, b % 6));
            case 14 -> same("place(" + a + ", " + (b % 4) + ")", x.place(a, b % 4), p.place(a, b % 4));
            case 15 -> {
                int r = objectOf(0);
                int d = chance(4) ? n(13) - 1 : n(10);
                for (int what = 0; what < 5; what++) {
                    same("exit(" + r + ", " + d + ", " + what + ")", x.exit(r, d, what), p.exit(r, d, what));
                }
            }
            case 16 -> same("flag(" + a + ", " + (b % 7) + ")", x.flag(a, b % 7), p.flag(a, b % 7));
            case 17 -> same("key(" + a + ")", x.key(a), p.key(a));
            case 18, 19 -> {
                int from = chance(90) ? objectOf(0) : a;
                int to = chance(90) ? objectOf(0) : b;
                same("way(" + from + ", " + to + ", " + open + ")", x.way(from, to, open), p.way(from, to, open));
                same("toward(" + from + ", " + to + ", " + open + ")", x.toward(from, to, open),
                        p.toward(from, to, open));
            }
            case 20 -> begin(chance(70) ? objectOf(5) : a);
            case 21 -> act();
            case 22 -> same("back()", x.back(), p.back());
            case 23 -> same("now(" + a + ", " + (b % 8) + ")", x.now(a, b % 8), p.now(a, b % 8));
            case 24 -> same("turn(" + (a - 1) + ", " + (b % 4) + ")", x.turn(a - 1, b % 4), p.turn(a - 1, b % 4));
            case 25 -> same("light()", x.light(), p.light());
            case 26 -> {
                if (chance(30)) {
                    seek();
                }
            }
            case 27 -> sought(a % 5, b % 4);
            default -> lineCall(which);
        }
    }

    private void bulk(int o) {
        same("bulk(" + o + ")", x.bulk(o), p.bulk(o));
        same("asked()", x.asked(), p.asked());
        for (int i = 0; i < 5; i++) {
            same("trace(" + i + ")", x.trace(i), p.trace(i));
        }
    }

    private void anySentence() {
        int form = chance(2) ? n(10) - 1 : n(8);
        int a = object();
        int b = object();
        int c = chance(5) ? n(13) - 1 : n(10);
        if (form == 5) {
            a = objectOf(0);
            b = chance(40) ? objectOf(0) : chance(70) ? objectOf(2) : b;
        }
        if (form == 6) {
            b = chance(3) ? n(9) - 1 : n(6);
            c = chance(3) ? n(4) - 1 : n(2);
        }
        if (form == 0 || form == 4) {
            b = chance(50) ? objectOf(3) : b;
        }
        say(form, a, b, c);
    }

    private void lineCall(int which) {
        int a = object();
        int b = chance(80) && x.count(1) > 0 ? a : object();
        int sort = chance(4) ? n(7) - 1 : n(3);
        int i = n(15) - 1;
        int j = n(8) - 1;
        int m = n(8) - 1;
        long v = chance(30) ? 0x7f800000L + n(3) - 1 + (chance(50) ? 0x80000000L : 0) : random.nextLong();
        int cast = n(Math.max(1, x.count(4)) + (chance(5) ? 1 : 0)) - (chance(3) ? 1 : 0);
        switch (which) {
            case 28 -> same("line(" + a + ", " + sort + ", " + i + ")", x.line(a, sort, i), p.line(a, sort, i));
            case 29 -> same("put(" + a + ", " + sort + ", " + i + ", " + v + ")", x.put(a, sort, i, v),
                    p.put(a, sort, i, v));
            case 30 -> {
                same("item(" + a + ", " + sort + ", " + i + ")", x.item(a, sort, i), p.item(a, sort, i));
                same("asked()", x.asked(), p.asked());
            }
            case 31 -> same("copy(" + a + ", " + sort + ", " + i + ", " + b + ", " + j + ", " + m + ")",
                    x.copy(a, sort, i, b, j, m), p.copy(a, sort, i, b, j, m));
            case 32 -> same("cast(" + (sort + 1) + ", " + i + ")", x.cast(sort + 1, i), p.cast(sort + 1, i));
            case 33 -> {
                int who = chance(20) ? TalePlay.NONE : a;
                same("role(" + cast + ", " + j + ", " + who + ")", x.role(cast, j, who), p.role(cast, j, who));
            }
            case 34 -> same("who(" + cast + ", " + j + ")", x.who(cast, j), p.who(cast, j));
            case 35 -> same("count(" + i + ")", x.count(i), p.count(i));
            case 36 -> same("finding()", x.finding(), p.finding());
            default -> same("findings(" + j + ")", x.findings(j), p.findings(j));
        }
    }
}
