import java.lang.reflect.Constructor;
import java.lang.reflect.Field;
import java.lang.reflect.Member;
import java.lang.reflect.Method;
import java.lang.reflect.Modifier;
import java.util.Set;
import java.util.TreeSet;

/** Promises 35 to 38: what is told; and the public face. */
public final class ToldTest {
    private static final int BAD = TalePlay.BAD, NONE = TalePlay.NONE, FINDING = TalePlay.FINDING;
    private static final Due due = new Due("ToldTest");

    public static void main(String[] args) {
        counts();
        findings();
        refusedLeaveAll();
        digests();
        digestByAnswers();
        face();
        due.done();
    }

    private static TalePlay small() {
        TalePlay x = new TalePlay();
        x.make(0, 0);
        x.make(5, 3);
        x.make(1, 4);
        x.say(0, 1, 0, 0);
        x.say(0, 2, 0, 0);
        return x;
    }

    private static void countsAre(TalePlay x, int... want) {
        for (int what = 0; what < want.length; what++) {
            due.be("count(" + what + ")", x.count(what), want[what]);
        }
    }

    private static void counts() {
        TalePlay x = small();
        countsAre(x, 6, 3, 2, 2, 0, 0, NONE, NONE);
        x.kind(1);
        x.cast(1, 1);
        x.cast(1, 1);
        x.say(6, 0, 2, 1);
        x.unsay(2);
        countsAre(x, 7, 3, 2, 3, 2, 0, NONE, NONE);
        x.begin(1);
        countsAre(x, 7, 3, 2, 3, 2, 0, 1, NONE);
        x.act(1, 2, 0);
        x.act(1, 2, 0);
        x.act(12, 2, 0);
        x.seek(2, 0, 300);
        countsAre(x, 7, 3, 2, 3, 2, 2, 1, 1);
        x.back();
        countsAre(x, 7, 3, 2, 3, 2, 1, 1, 1);
        x.make(0, 0);
        countsAre(x, 7, 4, 2, 3, 2, 0, NONE, 1);
        due.be("count(8)", x.count(8), BAD);
        due.be("count(-1)", x.count(-1), BAD);
    }

    private static void findings() {
        TalePlay x = small();
        due.be("finding()", x.finding(), 0);
        for (int f = 1; f <= 6; f++) {
            due.be("findings(f)", x.findings(f), 0);
        }
        due.be("findings(0)", x.findings(0), BAD);
        due.be("findings(7)", x.findings(7), BAD);
        due.be("findings(-1)", x.findings(-1), BAD);
        x.cast(2, 1);
        due.be("NOTHING", x.who(0, 0), FINDING);
        due.be("finding()", x.finding(), 1);
        due.be("BEYOND", x.who(0, 1), FINDING);
        due.be("finding()", x.finding(), 2);
        due.be("UNLIKE", x.bulk(0), FINDING);
        due.be("finding()", x.finding(), 3);
        due.be("NOUGHT", x.share(2, 2), FINDING);
        due.be("finding()", x.finding(), 4);
        due.be("SIZE", x.line(0, 0, -1), FINDING);
        due.be("finding()", x.finding(), 5);
        due.be("MISFIT", x.role(0, 0, 2), FINDING);
        due.be("finding()", x.finding(), 6);
        due.be("UNLIKE again", x.say(0, 0, 0, 0), FINDING);
        due.be("finding()", x.finding(), 3);
        due.be("BAD is none", x.bulk(9), BAD);
        due.be("CLASH is none", x.say(2, 2, 1, 0), TalePlay.CLASH);
        due.be("finding()", x.finding(), 3);
        int[] want = {1, 1, 2, 1, 1, 1};
        for (int f = 1; f <= 6; f++) {
            due.be("findings(" + f + ")", x.findings(f), want[f - 1]);
        }
        due.be("bulk(2)", x.bulk(2), 1);
        due.be("finding() stays", x.finding(), 3);
    }

    private static void refusedLeaveAll() {
        TalePlay x = small();
        x.begin(1);
        x.act(1, 2, 0);
        long digest = x.digest();
        x.kind(9);
        x.standard(9, 0, 0);
        x.standard(0, 0, 7);
        x.make(0, 100);
        x.bulk(0);
        x.share(0, 0);
        x.say(0, 2, 1, 0);
        x.say(0, 2, 0, 1);
        x.say(2, 2, 1, 1);
        x.unsay(5);
        x.exit(1, 0, 0);
        x.begin(2);
        x.act(1, 2, 0);
        x.act(0, 0, 0);
        x.seek(2, 0, 301);
        x.line(0, 9, 1);
        x.cast(0, 0);
        due.be("digest() stays", x.digest(), digest);
        due.be("count(5) stays", x.count(5), 1);
    }

    private static long more(long h, long... values) {
        long g = h;
        for (long v : values) {
            g = 31 * g + v;
        }
        return g;
    }

    private static void digests() {
        TalePlay x = small();
        x.standard(0, 2, 0);
        x.standard(5, 4, 1);
        x.kind(3);
        long h = 17;
        h = more(h, NONE, NONE, NONE, 0, NONE, NONE, NONE);
        h = more(h, NONE, NONE, NONE, NONE, NONE, NONE, NONE);
        for (int k = 2; k < 5; k++) {
            h = more(h, 1, NONE, NONE, NONE, NONE, NONE, NONE);
        }
        h = more(h, 1, NONE, NONE, NONE, NONE, 1, NONE);
        h = more(h, 3, NONE, NONE, NONE, NONE, NONE, NONE);
        long kinds = h;
        h = more(h, 0, 0, NONE, NONE, 5, 3, 0, 0, 1, 4, 0, 0);
        due.be("digest()", x.digest(), more(h, 0, 1, 0, 0, 1, 0, 2, 0, 0, 1));
        x.begin(1);
        h = more(kinds, 0, 0, NONE, NONE, NONE, NONE, NONE, NONE, 0, 0);
        h = more(h, 5, 3, 0, 0, 0, 0, NONE, NONE, 0, 0);
        h = more(h, 1, 4, 0, 0, 0, 0, NONE, NONE, 0, 0);
        due.be("digest() in a tale", x.digest(), more(h, 0, 1, 0, 0, 1, 0, 2, 0, 0, 1));
        x.unsay(0);
        h = more(kinds, 0, 0, NONE, NONE, 5, 3, NONE, NONE, 1, 4, 0, 0);
        due.be("digest() with one unsaid", x.digest(), more(h, 0, 1, 0, 0, 0, 0, 2, 0, 0, 1));
    }

    private static void digestByAnswers() {
        TalePlay x = small();
        int box = x.make(3, 7);
        int door = x.make(2, 7);
        x.say(0, box, 0, 0);
        x.say(6, box, 5, 1);
        x.say(5, 0, door, 3);
        x.begin(1);
        x.act(1, 2, 0);
        x.act(5, box, 0);
        x.act(3, 2, box);
        x.act(6, box, 0);
        long h = 17;
        int[] parents = {NONE, NONE, 1, 1, 1, 1};
        for (int parent : parents) {
            h = more(h, parent, NONE, NONE, NONE, NONE, NONE, NONE);
        }
        int[] kinds = {0, 5, 1, 3, 2};
        int[] sizes = {0, 3, 4, 7, 7};
        for (int o = 0; o < 5; o++) {
            h = more(h, kinds[o], sizes[o], x.place(o, 0), x.place(o, 1));
            for (int what = 0; what < 6; what++) {
                h = more(h, x.now(o, what));
            }
        }
        for (int s = 0; s < x.count(3); s++) {
            for (int what = 0; what < 5; what++) {
                h = more(h, x.sentence(s, what));
            }
        }
        due.be("digest() by the answers", x.digest(), h);
    }

    private static void addVisible(Set<String> names, Member member) {
        if (!Modifier.isPrivate(member.getModifiers())) {
            String kind = Modifier.isPublic(member.getModifiers()) ? "public " : "hidden ";
            names.add(kind + member.getName());
        }
    }

    private static void face() {
        Set<String> names = new TreeSet<>();
        for (Method m : TalePlay.class.getDeclaredMethods()) {
            if (!m.isSynthetic()) {
                addVisible(names, m);
            }
        }
        for (Field f : TalePlay.class.getDeclaredFields()) {
            addVisible(names, f);
        }
        String[] face = {"kind", "standard", "make", "is", "bulk", "asked", "trace", "share", "say", "unsay", "clash",
            "sentence", "place", "exit", "flag", "key", "way", "toward", "begin", "act", "back", "now", "turn",
            "light", "seek", "sought", "line", "put", "item", "copy", "cast", "role", "who", "count", "finding",
            "findings", "digest", "BAD", "FULL", "FINDING", "CLASH", "STATE", "NONE"};
        for (String name : face) {
            due.be("the face has " + name, names.remove("public " + name) ? 1 : 0, 1);
        }
        for (String name : names) {
            due.be("more than the face: " + name, 1, 0);
        }
        for (Constructor<?> c : TalePlay.class.getDeclaredConstructors()) {
            due.be("constructor", c.getParameterCount(), 0);
        }
        due.be("final", Modifier.isFinal(TalePlay.class.getModifiers()) ? 1 : 0, 1);
    }
}
