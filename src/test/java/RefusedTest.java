import java.util.Arrays;
import java.util.function.ToIntFunction;

/** What is refused changes nothing but finding(), findings(), THE CLASH and (by bulk()) THE TRACE. */
public final class RefusedTest {
    private static final int BAD = TalePlay.BAD, FINDING = TalePlay.FINDING, CLASH = TalePlay.CLASH,
            STATE = TalePlay.STATE, NONE = TalePlay.NONE;
    private static final int[] KEPT_CLASH = {2, NONE, NONE}, NO_CLASH = {NONE, NONE, NONE};
    private static final int[] KEPT_TRACE = {2, 1, 1, NONE}, NO_TRACE = {NONE, NONE, NONE, NONE};
    private static final Due due = new Due("RefusedTest");

    public static void main(String[] args) {
        due.sentence(0, "What is refused changes nothing but finding(), findings(), THE CLASH and (by bulk()) THE TRACE");
        kinds();
        sentences();
        clashes();
        tales();
        withoutTale();
        lines();
        reasons();
        due.done();
    }

    /** Objects of all kinds, a line, a cast, a clash, a trace, and, if it is asked for, a tale of two turns. */
    private static TalePlay world(boolean tale) {
        TalePlay x = new TalePlay();
        int[] kinds = {0, 5, 3, 1, 4, 2, 0, 1, 2, 5};
        int[] sizes = {0, 10, 5, 3, 4, 9, 0, 2, 0, 1};
        for (int o = 0; o < kinds.length; o++) {
            x.make(kinds[o], sizes[o]);
        }
        int[][] said = {{0, 1, 0, 0}, {0, 2, 0, 0}, {0, 3, 2, 0}, {0, 4, 0, 0}, {5, 0, 5, 0}, {5, 6, 5, 1}, {6, 2, 0, 1},
            {2, 7, 1, 0}, {7, 7, 5, 0}, {5, 0, 6, 3}, {6, 0, 2, 1}};
        for (int[] s : said) {
            Worlds.say(x, s[0], s[1], s[2], s[3]);
        }
        x.unsay(10);
        x.line(0, 1, 3);
        x.put(0, 1, 2, 77);
        x.line(3, 3, 2);
        x.cast(3, 2);
        x.role(0, 1, 2);
        x.begin(1);
        x.act(12, 0, 0);
        x.act(1, 3, 0);
        x.seek(3, 6, 300);
        if (!tale) {
            x.standard(4, 0, NONE);
        }
        x.begin(tale ? 3 : 0);
        x.who(0, 0);
        x.bulk(2);
        x.say(0, 3, 0, 0);
        if (tale) {
            x.back();
            x.bulk(2);
            x.act(1, 3, 0);
        }
        x.share(3, 0);
        return x;
    }

    /** All that can be told of it, but for what a refusal may change. */
    private static long[] told(TalePlay x) {
        long[] told = new long[200];
        int n = 0;
        told[n++] = x.asked();
        told[n++] = x.digest();
        for (int what = 0; what < 8; what++) {
            told[n++] = x.count(what);
        }
        for (int o = 0; o < 10; o++) {
            told[n++] = x.place(o, 2);
            told[n++] = x.flag(o, 2);
        }
        for (int d = 0; d < 10; d++) {
            told[n++] = x.exit(0, d, 0);
            told[n++] = x.exit(6, d, 2);
        }
        told[n++] = x.flag(2, 0);
        told[n++] = x.key(5);
        told[n++] = x.key(2);
        told[n++] = x.way(0, 6, true);
        told[n++] = x.toward(0, 6, false);
        for (int i = 0; i < 4; i++) {
            for (int what = 0; what < 3; what++) {
                told[n++] = x.turn(i, what);
                told[n++] = x.sought(i, what);
            }
        }
        for (int i = 0; i < 3; i++) {
            told[n++] = x.item(0, 1, i);
            told[n++] = x.asked();
            told[n++] = x.who(0, i);
            told[n++] = x.item(3, 3, i);
        }
        return Arrays.copyOf(told, n);
    }

    private static void row(String what, int[] want, ToIntFunction<Integer> row) {
        for (int i = 0; i < want.length; i++) {
            due.be(what + " " + i, row.applyAsInt(i), want[i]);
        }
    }

    private static void hold(String call, boolean tale, ToIntFunction<TalePlay> made, int answer, int finding,
            int[] clash, int[] trace) {
        TalePlay before = world(tale);
        TalePlay x = world(tale);
        due.be(call, made.applyAsInt(x), answer);
        due.be(call + ": finding()", x.finding(), finding == 0 ? before.finding() : finding);
        for (int f = 1; f <= 6; f++) {
            due.be(call + ": findings(" + f + ")", x.findings(f), before.findings(f) + (f == finding ? 1 : 0));
        }
        row(call + ": clash", clash, x::clash);
        row(call + ": trace", trace, x::trace);
        long[] was = told(before);
        long[] is = told(x);
        for (int i = 0; i < was.length; i++) {
            due.be(call + ": number " + i + " of what is told", is[i], was[i]);
        }
    }

    private static void refused(String call, int answer, ToIntFunction<TalePlay> made) {
        hold(call, true, made, answer, 0, KEPT_CLASH, KEPT_TRACE);
        if (answer != STATE) {
            hold(call + " without a tale", false, made, answer, 0, KEPT_CLASH, KEPT_TRACE);
        }
    }

    private static void found(String call, int finding, ToIntFunction<TalePlay> made) {
        hold(call, true, made, FINDING, finding, KEPT_CLASH, KEPT_TRACE);
        hold(call + " without a tale", false, made, FINDING, finding, KEPT_CLASH, KEPT_TRACE);
    }

    private static void kinds() {
        refused("kind(6)", BAD, x -> x.kind(6));
        refused("standard(6, 0, 1)", BAD, x -> x.standard(6, 0, 1));
        refused("standard(0, 6, 1)", BAD, x -> x.standard(0, 6, 1));
        refused("standard(0, 2, 2)", BAD, x -> x.standard(0, 2, 2));
        refused("make(6, 0)", BAD, x -> x.make(6, 0));
        refused("make(0, 100)", BAD, x -> x.make(0, 100));
        refused("is(10, 0)", BAD, x -> x.is(10, 0));
        refused("bulk(10)", BAD, x -> x.bulk(10));
        hold("bulk(0)", true, x -> x.bulk(0), FINDING, Worlds.UNLIKE, KEPT_CLASH, NO_TRACE);
        hold("bulk(8)", true, x -> x.bulk(8), FINDING, Worlds.NOUGHT, KEPT_CLASH, new int[] {4, 1, NONE, NONE});
        hold("bulk(0) without a tale", false, x -> x.bulk(0), FINDING, Worlds.UNLIKE, KEPT_CLASH, NO_TRACE);
        refused("share(10, 0)", BAD, x -> x.share(10, 0));
        found("share(0, 1)", Worlds.UNLIKE, x -> x.share(0, 1));
        found("share(8, 0)", Worlds.NOUGHT, x -> x.share(8, 0));
        found("share(3, 4)", Worlds.NOUGHT, x -> x.share(3, 4));
    }

    private static void sentences() {
        refused("unsay(11)", BAD, x -> x.unsay(11));
        refused("unsay(10), which is unsaid", BAD, x -> x.unsay(10));
        refused("unsay(-1)", BAD, x -> x.unsay(-1));
        refused("sentence(11, 0)", BAD, x -> x.sentence(11, 0));
        refused("place(10, 0)", BAD, x -> x.place(10, 0));
        refused("exit(0, 10, 0)", BAD, x -> x.exit(0, 10, 0));
        found("exit(1, 0, 0)", Worlds.UNLIKE, x -> x.exit(1, 0, 0));
        refused("flag(0, 6)", BAD, x -> x.flag(0, 6));
        found("flag(0, 0)", Worlds.UNLIKE, x -> x.flag(0, 0));
        refused("key(10)", BAD, x -> x.key(10));
        found("key(1)", Worlds.UNLIKE, x -> x.key(1));
        refused("way(0, 10, true)", BAD, x -> x.way(0, 10, true));
        found("way(0, 1, true)", Worlds.UNLIKE, x -> x.way(0, 1, true));
        refused("toward(10, 0, true)", BAD, x -> x.toward(10, 0, true));
        found("toward(1, 0, true)", Worlds.UNLIKE, x -> x.toward(1, 0, true));
    }

    /** The clash is that of the latest say(), also of one that is refused otherwise, or is there already. */
    private static void clashes() {
        hold("say(8, 0, 0, 0)", true, x -> x.say(8, 0, 0, 0), BAD, 0, NO_CLASH, KEPT_TRACE);
        hold("say(5, 0, 6, 10)", true, x -> x.say(5, 0, 6, 10), BAD, 0, NO_CLASH, KEPT_TRACE);
        hold("say(0, 0, 0, 0)", true, x -> x.say(0, 0, 0, 0), FINDING, Worlds.UNLIKE, NO_CLASH, KEPT_TRACE);
        hold("say(0, 1, 0, 0)", true, x -> x.say(0, 1, 0, 0), 0, 0, NO_CLASH, KEPT_TRACE);
        hold("say(0, 1, 6, 0)", true, x -> x.say(0, 1, 6, 0), CLASH, 0, new int[] {0, NONE, NONE}, KEPT_TRACE);
        hold("say(5, 0, 5, 7)", true, x -> x.say(5, 0, 5, 7), CLASH, 0, new int[] {4, NONE, NONE}, KEPT_TRACE);
        hold("say(6, 2, 1, 1)", true, x -> x.say(6, 2, 1, 1), CLASH, 0, new int[] {6, NONE, NONE}, KEPT_TRACE);
        hold("say(7, 3, 5, 0)", true, x -> x.say(7, 3, 5, 0), CLASH, 0, new int[] {8, NONE, NONE}, KEPT_TRACE);
    }

    private static void tales() {
        refused("begin(10)", BAD, x -> x.begin(10));
        found("begin(3)", Worlds.UNLIKE, x -> x.begin(3));
        found("begin(9)", Worlds.NOTHING, x -> x.begin(9));
        refused("act(13, 0, 0)", BAD, x -> x.act(13, 0, 0));
        refused("act(0, 10, 0)", BAD, x -> x.act(0, 10, 0));
        refused("act(3, 3, 10)", BAD, x -> x.act(3, 3, 10));
        refused("now(10, 0)", BAD, x -> x.now(10, 0));
        refused("turn(-1, 0)", BAD, x -> x.turn(-1, 0));
        refused("turn(0, 3)", BAD, x -> x.turn(0, 3));
        hold("turn(2, 0)", true, x -> x.turn(2, 0), BAD, 0, KEPT_CLASH, KEPT_TRACE);
        refused("seek(10, 0, 1)", BAD, x -> x.seek(10, 0, 1));
        refused("seek(3, 10, 1)", BAD, x -> x.seek(3, 10, 1));
        refused("seek(3, 0, 301)", BAD, x -> x.seek(3, 0, 301));
        refused("sought(0, 3)", BAD, x -> x.sought(0, 3));
    }

    private static void state(String call, ToIntFunction<TalePlay> made) {
        hold(call, false, made, STATE, 0, KEPT_CLASH, KEPT_TRACE);
    }

    private static void withoutTale() {
        state("act(12, 0, 0)", x -> x.act(12, 0, 0));
        state("act(1, 3, 0)", x -> x.act(1, 3, 0));
        state("back()", TalePlay::back);
        state("now(0, 0)", x -> x.now(0, 0));
        state("turn(0, 0)", x -> x.turn(0, 0));
        state("turn(200, 0)", x -> x.turn(200, 0));
        state("light()", TalePlay::light);
        state("seek(3, 2, 300)", x -> x.seek(3, 2, 300));
    }

    private static void lines() {
        refused("line(10, 0, 1)", BAD, x -> x.line(10, 0, 1));
        refused("line(0, 4, 1)", BAD, x -> x.line(0, 4, 1));
        refused("line(0, 1, 13)", BAD, x -> x.line(0, 1, 13));
        found("line(0, 1, -1)", Worlds.SIZE, x -> x.line(0, 1, -1));
        refused("put(0, 4, 0, 5)", BAD, x -> x.put(0, 4, 0, 5));
        found("put(1, 1, 0, 5)", Worlds.NOTHING, x -> x.put(1, 1, 0, 5));
        found("put(0, 3, 0, 5)", Worlds.UNLIKE, x -> x.put(0, 3, 0, 5));
        found("put(0, 1, 3, 5)", Worlds.BEYOND, x -> x.put(0, 1, 3, 5));
        found("put(0, 1, -1, 5)", Worlds.BEYOND, x -> x.put(0, 1, -1, 5));
        refused("item(10, 1, 0)", BAD, x -> x.item(10, 1, 0));
        found("item(1, 1, 0)", Worlds.NOTHING, x -> x.item(1, 1, 0));
        found("item(0, 0, 0)", Worlds.UNLIKE, x -> x.item(0, 0, 0));
        found("item(0, 1, 3)", Worlds.BEYOND, x -> x.item(0, 1, 3));
        refused("copy(0, 4, 0, 0, 0, 1)", BAD, x -> x.copy(0, 4, 0, 0, 0, 1));
        found("copy(0, 1, 2, 3, 0, 1)", Worlds.UNLIKE, x -> x.copy(0, 1, 2, 3, 0, 1));
        found("copy(0, 1, 2, 1, 0, 1)", Worlds.NOTHING, x -> x.copy(0, 1, 2, 1, 0, 1));
        found("copy(0, 1, 1, 0, 0, 3)", Worlds.BEYOND, x -> x.copy(0, 1, 1, 0, 0, 3));
        found("copy(0, 1, 2, 0, 3, 1)", Worlds.BEYOND, x -> x.copy(0, 1, 2, 0, 3, 1));
        refused("cast(0, 1)", BAD, x -> x.cast(0, 1));
        refused("cast(1, 13)", BAD, x -> x.cast(1, 13));
        found("cast(1, -1)", Worlds.SIZE, x -> x.cast(1, -1));
        refused("role(1, 0, 2)", BAD, x -> x.role(1, 0, 2));
        refused("role(0, 1, 10)", BAD, x -> x.role(0, 1, 10));
        found("role(0, 1, 0)", Worlds.UNLIKE, x -> x.role(0, 1, 0));
        found("role(0, 2, 2)", Worlds.BEYOND, x -> x.role(0, 2, 2));
        found("role(0, 1, 1)", Worlds.MISFIT, x -> x.role(0, 1, 1));
        refused("who(1, 0)", BAD, x -> x.who(1, 0));
        found("who(0, 2)", Worlds.BEYOND, x -> x.who(0, 2));
        found("who(0, 0)", Worlds.NOTHING, x -> x.who(0, 0));
        refused("count(8)", BAD, x -> x.count(8));
        refused("findings(0)", BAD, x -> x.findings(0));
    }

    private static void reason(int reason, int verb, int a, int b) {
        hold("act(" + verb + ", " + a + ", " + b + ")", true, x -> x.act(verb, a, b), reason, 0, KEPT_CLASH, KEPT_TRACE);
    }

    /** An act that is not done changes nothing either. */
    private static void reasons() {
        due.sentence(0, "ACTS, with the REASONS for which they are not done");
        reason(2, 0, 9, 0);
        reason(3, 0, 0, 0);
        reason(4, 1, 6, 0);
        reason(5, 1, 1, 0);
        reason(6, 1, 3, 0);
        reason(7, 1, 5, 0);
        reason(11, 2, 2, 0);
        reason(12, 3, 3, 4);
        reason(12, 4, 3, 2);
        reason(15, 5, 2, 0);
        reason(3, 6, 5, 0);
        reason(17, 7, 5, 7);
        reason(18, 8, 5, 3);
        reason(19, 9, 3, 0);
        reason(12, 10, 7, 0);
        reason(1, 11, 0, 0);
    }
}
