import java.lang.reflect.Method;
import java.util.HashMap;
import java.util.Map;

/** Of each argument of each call every number that there is, and those that there are not: just outside, far outside. */
public final class ArgumentsTest {
    private static final int BAD = TalePlay.BAD, NONE = TalePlay.NONE, FINDING = TalePlay.FINDING;
    /** A refusal by a finding is written as this and the finding's number. */
    private static final int FOUND = 1000;
    private static final int BEYOND = FOUND + Worlds.BEYOND, SIZE = FOUND + Worlds.SIZE;
    private static final int OBJECTS = 8, SENTENCES = 9, CASTS = 2, TURNS = 2;
    private static final int MIN = Integer.MIN_VALUE, MAX = Integer.MAX_VALUE;
    private static final Map<String, Method> calls = new HashMap<>();
    private static final Due due = new Due("ArgumentsTest");

    public static void main(String[] args) throws ReflectiveOperationException {
        for (Method m : TalePlay.class.getDeclaredMethods()) {
            calls.put(m.getName(), m);
        }
        kinds();
        sentences();
        tales();
        lines();
        told();
        due.done();
    }

    /** One room with all that there is, and a tale of two turns. */
    private static TalePlay world() {
        TalePlay x = new TalePlay();
        int[] kinds = {0, 5, 3, 1, 4, 2, 0, 1};
        int[] sizes = {0, 10, 5, 3, 4, 9, 0, 2};
        for (int o = 0; o < OBJECTS; o++) {
            x.make(kinds[o], sizes[o]);
        }
        int[][] said = {{0, 1, 0, 0}, {0, 2, 0, 0}, {0, 3, 2, 0}, {0, 4, 0, 0}, {5, 0, 5, 0}, {5, 6, 5, 1}, {6, 2, 0, 1},
            {2, 7, 1, 0}, {7, 7, 5, 0}};
        for (int[] s : said) {
            Worlds.say(x, s[0], s[1], s[2], s[3]);
        }
        x.bulk(2);
        x.say(0, 3, 0, 0);
        x.line(0, 1, 3);
        x.line(3, 1, 3);
        x.cast(1, 12);
        x.cast(3, 2);
        x.begin(1);
        x.act(12, 0, 0);
        x.act(1, 3, 0);
        x.seek(3, 0, 300);
        return x;
    }

    private static int[] with(int[] arguments, int at, int v) {
        int[] changed = arguments.clone();
        changed[at] = v;
        return changed;
    }

    private static String text(String call, int[] arguments) {
        StringBuilder text = new StringBuilder(call).append('(');
        for (int i = 0; i < arguments.length; i++) {
            text.append(i == 0 ? "" : ", ").append(arguments[i]);
        }
        return text.append(')').toString();
    }

    private static int answer(TalePlay x, String call, int[] arguments) throws ReflectiveOperationException {
        Method m = calls.get(call);
        Class<?>[] types = m.getParameterTypes();
        Object[] boxed = new Object[types.length];
        for (int i = 0; i < types.length; i++) {
            boxed[i] = types[i] == boolean.class ? (Object) (arguments[i] != 0)
                    : types[i] == long.class ? (Object) (long) arguments[i] : (Object) arguments[i];
        }
        int answer = ((Number) m.invoke(x, boxed)).intValue();
        return answer == FINDING ? FOUND + x.finding() : answer;
    }

    /** An argument that may be from least to most; the others stay as they are. */
    private static void argument(String call, int[] arguments, int at, int least, int most, int below, int above)
            throws ReflectiveOperationException {
        for (int v = least; v <= most; v++) {
            int[] told = with(arguments, at, v);
            int answer = answer(world(), call, told);
            due.be(text(call, told) + " is refused by " + answer, answer == below || answer == above ? 1 : 0, 0);
        }
        int[] under = {least - 1, least - 2, least - 256, least - 65536, MIN + 1, MIN};
        for (int v : under) {
            due.be(text(call, with(arguments, at, v)), answer(world(), call, with(arguments, at, v)), below);
        }
        int[] over = {most + 1, most + 2, most + 256, most + 65536, MAX - 1, MAX};
        for (int v : over) {
            due.be(text(call, with(arguments, at, v)), answer(world(), call, with(arguments, at, v)), above);
        }
    }

    private static void bad(String call, int at, int least, int most, int... arguments)
            throws ReflectiveOperationException {
        argument(call, arguments, at, least, most, BAD, BAD);
    }

    private static void badObject(String call, int at, int... arguments) throws ReflectiveOperationException {
        argument(call, arguments, at, 0, OBJECTS - 1, BAD, BAD);
    }

    private static void kinds() throws ReflectiveOperationException {
        due.sentence(2, "BAD");
        bad("kind", 0, 0, 5, 0);
        due.sentence(3, "The DEFAULT of a KIND for a FLAG (0 .. 5) is v (1, 0; NONE: it has none)");
        bad("standard", 0, 0, 5, 0, 0, 0);
        bad("standard", 1, 0, 5, 0, 0, 0);
        argument("standard", new int[] {0, 0, 0}, 2, 0, 1, BAD, BAD);
        argument("standard", new int[] {0, 0, 0}, 2, NONE, NONE, BAD, BAD);
        due.sentence(4, "BAD: the KIND, the SIZE");
        bad("make", 0, 0, 5, 0, 0);
        bad("make", 1, 0, 99, 0, 0);
        due.sentence(5, "BAD");
        badObject("is", 0, 0, 0);
        bad("is", 1, 0, 5, 0, 0);
        due.sentence(6, "BAD");
        badObject("bulk", 0, 0);
        due.sentence(8, "Number i of THE TRACE of the latest bulk() that was not BAD; NONE");
        argument("trace", new int[] {0}, 0, 0, 2, NONE, NONE);
        due.sentence(9, "BAD");
        badObject("share", 0, 1, 1);
        badObject("share", 1, 1, 1);
    }

    private static void sentences() throws ReflectiveOperationException {
        due.sentence(10, "BAD: the FORM; a, b, c (OBJECTS; DIRECTIONS; FLAGS, values)");
        bad("say", 0, 0, 7, 0, 1, 1, 0);
        for (int form = 0; form < 8; form++) {
            badObject("say", 1, form, 1, 1, 0);
            if (form == 6) {
                bad("say", 2, 0, 5, form, 1, 1, 0);
                bad("say", 3, 0, 1, form, 1, 1, 0);
            } else {
                badObject("say", 2, form, 1, 1, 0);
            }
        }
        bad("say", 3, 0, 9, 5, 0, 6, 0);
        due.sentence(0, "c is 0 in other FORMS than 5 and 6, whatever was told");
        int[] others = {0, 1, 2, 3, 4, 7};
        for (int form : others) {
            int[] any = {MIN, -10, NONE, -1, 0, 1, 10, 30, MAX};
            for (int c : any) {
                int[] told = {form, 7, 2, c};
                int answer = answer(world(), "say", told);
                due.be(text("say", told) + " is BAD", answer == BAD ? 1 : 0, 0);
            }
        }
        due.sentence(11, "BAD: there is none such");
        bad("unsay", 0, 0, SENTENCES - 1, 0);
        due.sentence(12, "NONE: it had none such");
        argument("clash", new int[] {0}, 0, 0, 0, NONE, NONE);
        due.sentence(13, "0 its FORM, 1 to 3 a, b, c, 4 whether it is said (1, 0). BAD");
        bad("sentence", 0, 0, SENTENCES - 1, 0, 0);
        bad("sentence", 1, 0, 4, 0, 0);
        due.sentence(14, "BAD");
        badObject("place", 0, 0, 0);
        bad("place", 1, 0, 2, 0, 0);
        due.sentence(15, "BAD");
        badObject("exit", 0, 0, 0, 0);
        bad("exit", 1, 0, 9, 0, 0, 0);
        bad("exit", 2, 0, 3, 0, 0, 0);
        due.sentence(16, "BAD");
        badObject("flag", 0, 0, 0);
        bad("flag", 1, 0, 5, 2, 0);
        due.sentence(17, "BAD");
        badObject("key", 0, 0);
        due.sentence(18, "BAD");
        badObject("way", 0, 0, 0, 0);
        badObject("way", 1, 0, 0, 0);
        due.sentence(19, "BAD");
        badObject("toward", 0, 0, 0, 1);
        badObject("toward", 1, 0, 0, 1);
    }

    private static void tales() throws ReflectiveOperationException {
        due.sentence(20, "BAD");
        badObject("begin", 0, 0);
        due.sentence(21, "BAD: the ACT, OBJECTS, DIRECTION");
        bad("act", 0, 0, 12, 0, 0, 0);
        bad("act", 1, 0, 9, 0, 0, 0);
        for (int verb = 1; verb <= 10; verb++) {
            badObject("act", 1, verb, 0, 0);
        }
        int[] two = {3, 4, 7, 8};
        for (int verb : two) {
            badObject("act", 2, verb, 0, 0);
        }
        due.sentence(0, "what an ACT does not have is not looked at");
        int[] any = {MIN, -1, OBJECTS, 30, MAX};
        for (int v : any) {
            int[] one = {0, 1, 2, 5, 6, 9, 10};
            for (int verb : one) {
                due.be("act(" + verb + ", 0, " + v + ")", world().act(verb, 0, v), world().act(verb, 0, 0));
            }
            due.be("act(11, " + v + ", " + v + ")", world().act(11, v, v), 1);
            due.be("act(12, " + v + ", " + v + ")", world().act(12, v, v), 0);
        }
        due.sentence(23, "BAD");
        badObject("now", 0, 0, 0);
        bad("now", 1, 0, 6, 0, 0);
        due.sentence(24, "BAD: what, i below 0; STATE: no TALE; BAD: not so many TURNS");
        bad("turn", 0, 0, TURNS - 1, 0, 0);
        bad("turn", 1, 0, 2, 0, 0);
        due.sentence(26, "trying from n STATES (0 .. 300) at most");
        badObject("seek", 0, 0, 0, 1);
        badObject("seek", 1, 0, 0, 1);
        bad("seek", 2, 0, 300, 0, 0, 1);
        due.sentence(27, "NONE: none such. BAD: what");
        argument("sought", new int[] {0, 0}, 0, 0, 0, NONE, NONE);
        bad("sought", 1, 0, 2, 0, 0);
        due.be("sought(MAX, 3): BAD first", world().sought(MAX, 3), BAD);
    }

    private static void lines() throws ReflectiveOperationException {
        due.sentence(28, "BAD: also n above 12; SIZE: n below 0");
        badObject("line", 0, 0, 0, 0);
        bad("line", 1, 0, 3, 0, 0, 0);
        argument("line", new int[] {0, 0, 0}, 2, 0, 12, SIZE, BAD);
        due.sentence(29, "BAD: OBJECT, sort; NOTHING: no LINE; UNLIKE: it is of another sort; BEYOND");
        badObject("put", 0, 0, 1, 0, 5);
        bad("put", 1, 0, 3, 0, 1, 0, 5);
        argument("put", new int[] {0, 1, 0, 5}, 2, 0, 2, BEYOND, BEYOND);
        due.sentence(30, "As put()");
        badObject("item", 0, 0, 1, 0);
        bad("item", 1, 0, 3, 0, 1, 0);
        argument("item", new int[] {0, 1, 0}, 2, 0, 2, BEYOND, BEYOND);
        due.sentence(31, "BAD: OBJECTS, sort");
        badObject("copy", 0, 0, 1, 0, 3, 0, 1);
        bad("copy", 1, 0, 3, 0, 1, 0, 3, 0, 1);
        badObject("copy", 3, 0, 1, 0, 3, 0, 1);
        due.sentence(31, "BEYOND: not so many from there on (a place, n below 0 too)");
        for (int n = 0; n <= 3; n++) {
            argument("copy", new int[] {0, 1, 0, 3, 0, n}, 2, 0, 3 - n, BEYOND, BEYOND);
            argument("copy", new int[] {0, 1, 0, 3, 0, n}, 4, 0, 3 - n, BEYOND, BEYOND);
            argument("copy", new int[] {0, 1, n, 3, 0, 0}, 5, 0, 3 - n, BEYOND, BEYOND);
            argument("copy", new int[] {0, 1, 0, 3, n, 0}, 5, 0, 3 - n, BEYOND, BEYOND);
        }
        due.sentence(32, "A CAST with n ROLES of a sort (1 .. 5)");
        bad("cast", 0, 1, 5, 1, 0);
        due.sentence(32, "BAD: also n above 12; FULL; SIZE");
        argument("cast", new int[] {1, 0}, 1, 0, 12, SIZE, BAD);
        due.sentence(33, "ROLE i of a CAST is an OBJECT's (NONE: it is empty): 1. BAD; UNLIKE: a ROOM; BEYOND");
        bad("role", 0, 0, CASTS - 1, 0, 0, 2);
        argument("role", new int[] {0, 0, 2}, 1, 0, 11, BEYOND, BEYOND);
        argument("role", new int[] {1, 0, 2}, 1, 0, 1, BEYOND, BEYOND);
        badObject("role", 2, 0, 0, 0);
        argument("role", new int[] {0, 0, NONE}, 2, NONE, NONE, BAD, BAD);
        due.sentence(34, "BAD; BEYOND");
        bad("who", 0, 0, CASTS - 1, 0, 0);
        argument("who", new int[] {0, 0}, 1, 0, 11, BEYOND, BEYOND);
        argument("who", new int[] {1, 0}, 1, 0, 1, BEYOND, BEYOND);
    }

    private static void told() throws ReflectiveOperationException {
        due.sentence(35, "BAD");
        bad("count", 0, 0, 7, 0);
        due.sentence(37, "How often a FINDING (1 .. 6) was answered. BAD");
        bad("findings", 0, 1, 6, 1);
    }
}
