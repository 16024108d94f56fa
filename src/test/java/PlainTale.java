import java.util.ArrayList;
import java.util.Arrays;
import java.util.HashMap;
import java.util.HashSet;
import java.util.List;
import java.util.Map;
import java.util.Set;

/**
 * The document told a second time, as slowly as it reads: nothing is kept that could be looked up in the sentences or
 * reckoned anew. RandomTest holds TalePlay against it.
 */
final class PlainTale {
    private static final int BAD = -1, FULL = -2, FINDING = -3, CLASH = -4, STATE = -5, NONE = -9;

    private record Sentence(int form, int a, int b, int c) { }

    private record Deed(int verb, int x, int y) { }

    /** Places, OPEN, LOCKED. */
    private static final class Stand {
        final Map<Integer, int[]> place = new HashMap<>();
        final Set<Integer> open = new HashSet<>();
        final Set<Integer> locked = new HashSet<>();

        Stand twin() {
            Stand s = new Stand();
            for (Map.Entry<Integer, int[]> e : place.entrySet()) {
                s.place.put(e.getKey(), e.getValue().clone());
            }
            s.open.addAll(open);
            s.locked.addAll(locked);
            return s;
        }

        String text(int objects) {
            StringBuilder t = new StringBuilder();
            for (int o = 0; o < objects; o++) {
                t.append(Arrays.toString(place.get(o))).append(open.contains(o)).append(locked.contains(o));
            }
            return t.toString();
        }
    }

    private final List<Integer> parents = new ArrayList<>(List.of(NONE, NONE, 1, 1, 1, 1));
    private final Map<String, Integer> defaults = new HashMap<>();
    private final List<int[]> objects = new ArrayList<>();
    private final List<Sentence> sentences = new ArrayList<>();
    private final Set<Integer> unsaid = new HashSet<>();
    private List<Integer> clash = new ArrayList<>();
    private List<Integer> trace = new ArrayList<>();
    private long asked = 0;
    private int finding = 0;
    private final int[] findings = new int[7];
    private Stand tale = null;
    private int player = NONE;
    private List<Stand> past = new ArrayList<>();
    private List<Deed> turns = new ArrayList<>();
    private List<Deed> play = null;
    private final Map<Integer, Object> lines = new HashMap<>();
    private final List<int[]> casts = new ArrayList<>();
    private final List<Integer> castSorts = new ArrayList<>();

    private int found(int f) {
        finding = f;
        findings[f]++;
        return FINDING;
    }

    private boolean isObject(int o) {
        return o >= 0 && o < objects.size();
    }

    private boolean isKind(int k) {
        return k >= 0 && k < parents.size();
    }

    private boolean kindIs(int k, int other) {
        return k == other || parents.get(k) != NONE && kindIs(parents.get(k), other);
    }

    private boolean isA(int o, int kind) {
        return kindIs(objects.get(o)[0], kind);
    }

    private boolean isMovable(int o) {
        return isA(o, 1) && !isA(o, 2);
    }

    private boolean isGoods(int o) {
        return isMovable(o) && !isA(o, 5);
    }

    private boolean isShutter(int o) {
        return isA(o, 2) || isA(o, 3);
    }

    private boolean canHave(int o, int flag) {
        if (flag == 0 || flag == 1) {
            return isShutter(o);
        }
        return flag == 2 || flag == 3 && isMovable(o) || flag == 4 && isGoods(o) || flag == 5 && isA(o, 3);
    }

    int kind(int parent) {
        if (!isKind(parent)) {
            return BAD;
        }
        if (parents.size() == 24) {
            return FULL;
        }
        parents.add(parent);
        return parents.size() - 1;
    }

    int standard(int kind, int flag, int v) {
        if (!isKind(kind) || flag < 0 || flag > 5 || v != 1 && v != 0 && v != NONE) {
            return BAD;
        }
        tale = null;
        Integer old = defaults.put(kind + "/" + flag, v);
        return old == null ? NONE : old;
    }

    int make(int kind, int size) {
        if (!isKind(kind) || size < 0 || size > 99) {
            return BAD;
        }
        if (objects.size() == 30) {
            return FULL;
        }
        tale = null;
        objects.add(new int[] {kind, size});
        return objects.size() - 1;
    }

    int is(int object, int kind) {
        return !isObject(object) || !isKind(kind) ? BAD : isA(object, kind) ? 1 : 0;
    }

    private Stand asSaid() {
        Stand s = new Stand();
        for (int i = 0; i < sentences.size(); i++) {
            Sentence t = sentences.get(i);
            if (!unsaid.contains(i) && t.form <= 4) {
                s.place.put(t.a, new int[] {t.form, t.b});
            }
        }
        for (int o = 0; o < objects.size(); o++) {
            if (isShutter(o) && said(o, 0) == 1) {
                s.open.add(o);
            }
            if (isShutter(o) && said(o, 1) == 1) {
                s.locked.add(o);
            }
        }
        return s;
    }

    private Stand present() {
        return tale != null ? tale : asSaid();
    }

    /** -1: shared among none. */
    private int reckon(Stand s, int o, List<Integer> writes) {
        int size = objects.get(o)[1];
        if (isA(o, 3) || isA(o, 4)) {
            boolean box = isA(o, 3);
            writes.add(box ? 2 : 3);
            writes.add(1);
            int sum = size;
            for (int other = 0; other < objects.size(); other++) {
                int[] p = s.place.get(other);
                if (p != null && p[0] == (box ? 0 : 1) && p[1] == o) {
                    sum += reckon(s, other, writes);
                }
            }
            return sum;
        }
        if (isA(o, 2)) {
            writes.add(4);
            writes.add(1);
            return size == 0 ? -1 : 100 / size;
        }
        if (isA(o, 5)) {
            writes.add(5);
        }
        writes.add(1);
        return isA(o, 5) ? size + size : size;
    }

    int bulk(int object) {
        if (!isObject(object)) {
            return BAD;
        }
        trace = new ArrayList<>();
        if (isA(object, 0)) {
            return found(3);
        }
        int b = reckon(present(), object, trace);
        if (b < 0) {
            return found(4);
        }
        asked = b;
        return 1;
    }

    long asked() {
        return asked;
    }

    int trace(int i) {
        return i < 0 || i >= trace.size() || i >= 100 ? NONE : trace.get(i);
    }

    int share(int object, int holder) {
        if (!isObject(object) || !isObject(holder)) {
            return BAD;
        }
        if (isA(object, 0)) {
            return found(3);
        }
        Stand s = present();
        int sum = 0;
        for (int o = 0; o < objects.size(); o++) {
            int[] p = s.place.get(o);
            if (p != null && p[1] == holder) {
                sum += reckon(s, o, new ArrayList<>());
            }
        }
        int b = reckon(s, object, new ArrayList<>());
        if (b < 0 || sum == 0) {
            return found(4);
        }
        asked = b * 1000L / sum;
        return 1;
    }

    private boolean in(int v, int low, int high) {
        return v >= low && v <= high;
    }

    private boolean fits(int form, int a, int b) {
        switch (form) {
            case 0: return isMovable(a) && (isA(b, 0) || isA(b, 3));
            case 1: return isMovable(a) && isA(b, 4);
            case 2:
            case 3: return isGoods(a) && isA(b, 5);
            case 4: return isGoods(a) && isA(b, 1);
            case 5: return isA(a, 0) && (isA(b, 0) || isA(b, 2));
            case 6: return canHave(a, b);
            default: return isGoods(a) && isShutter(b);
        }
    }

    /** The first sentence that is said and alike; NONE stands for any. */
    private int which(int lowForm, int highForm, int a, int b, int c) {
        for (int i = 0; i < sentences.size(); i++) {
            Sentence s = sentences.get(i);
            if (!unsaid.contains(i) && in(s.form, lowForm, highForm) && (a == NONE || a == s.a)
                    && (b == NONE || b == s.b) && (c == NONE || c == s.c)) {
                return i;
            }
        }
        return NONE;
    }

    private List<Integer> row(int s) {
        return s == NONE ? null : new ArrayList<>(List.of(s));
    }

    private List<Integer> clashOf(int form, int a, int b, int c) {
        if (form <= 4) {
            if (which(0, 4, a, NONE, NONE) != NONE) {
                return row(which(0, 4, a, NONE, NONE));
            }
            List<Integer> chain = new ArrayList<>();
            int o = b;
            while (o != a) {
                int s = which(0, 4, o, NONE, NONE);
                if (s == NONE) {
                    return form == 3 ? row(which(6, 6, a, 4, 0)) : null;
                }
                chain.add(s);
                o = sentences.get(s).b;
            }
            return chain;
        }
        if (form == 5) {
            return clashOfExit(a, b, c);
        }
        if (form == 6) {
            List<Integer> other = row(which(6, 6, a, b, 1 - c));
            if (other != null) {
                return other;
            }
            if (b <= 1 && c == 1) {
                return row(which(6, 6, a, 1 - b, 1));
            }
            return b == 4 && c == 0 ? row(which(3, 3, a, NONE, NONE)) : null;
        }
        return row(which(7, 7, NONE, b, NONE));
    }

    private List<Integer> clashOfExit(int a, int b, int c) {
        if (which(5, 5, a, NONE, c) != NONE) {
            return row(which(5, 5, a, NONE, c));
        }
        if (!isA(b, 2)) {
            return null;
        }
        if (which(5, 5, a, b, NONE) != NONE) {
            return row(which(5, 5, a, b, NONE));
        }
        List<Integer> both = new ArrayList<>();
        for (int i = 0; i < sentences.size(); i++) {
            if (!unsaid.contains(i) && sentences.get(i).form == 5 && sentences.get(i).b == b) {
                both.add(i);
            }
        }
        return both.size() == 2 ? both : null;
    }

    int say(int form, int a, int b, int c) {
        clash = new ArrayList<>();
        if (!in(form, 0, 7) || !isObject(a)) {
            return BAD;
        }
        if (form == 6 ? !in(b, 0, 5) || !in(c, 0, 1) : !isObject(b)) {
            return BAD;
        }
        if (form == 5 && !in(c, 0, 9)) {
            return BAD;
        }
        if (!fits(form, a, b)) {
            return found(3);
        }
        Sentence s = new Sentence(form, a, b, form == 5 || form == 6 ? c : 0);
        for (int i = 0; i < sentences.size(); i++) {
            if (sentences.get(i).equals(s) && !unsaid.contains(i)) {
                return i;
            }
        }
        if (sentences.size() == 200) {
            return FULL;
        }
        List<Integer> row = clashOf(form, a, b, s.c);
        if (row != null) {
            clash = row;
            return CLASH;
        }
        tale = null;
        sentences.add(s);
        return sentences.size() - 1;
    }

    int unsay(int sentence) {
        if (!in(sentence, 0, sentences.size() - 1) || unsaid.contains(sentence)) {
            return BAD;
        }
        tale = null;
        unsaid.add(sentence);
        return sentences.size() - unsaid.size();
    }

    int clash(int i) {
        return in(i, 0, clash.size() - 1) ? clash.get(i) : NONE;
    }

    int sentence(int sentence, int what) {
        if (!in(sentence, 0, sentences.size() - 1) || !in(what, 0, 4)) {
            return BAD;
        }
        Sentence s = sentences.get(sentence);
        return new int[] {s.form, s.a, s.b, s.c, unsaid.contains(sentence) ? 0 : 1}[what];
    }

    int place(int object, int what) {
        if (!isObject(object) || !in(what, 0, 2)) {
            return BAD;
        }
        int s = which(0, 4, object, NONE, NONE);
        return s == NONE ? NONE : new int[] {sentences.get(s).form, sentences.get(s).b, s}[what];
    }

    /** The room, the door, the sentence, whether implied; null without an exit. */
    private int[] exitOf(int room, int d) {
        int s = which(5, 5, room, NONE, d);
        if (s == NONE) {
            int opposite = d % 2 == 0 ? d + 1 : d - 1;
            int by = which(5, 5, NONE, room, opposite);
            return by == NONE ? null : new int[] {sentences.get(by).a, NONE, by, 1};
        }
        int target = sentences.get(s).b;
        if (isA(target, 0)) {
            return new int[] {target, NONE, s, 0};
        }
        int other = NONE;
        for (int r = 0; r < objects.size(); r++) {
            if (r != room && which(5, 5, r, target, NONE) != NONE) {
                other = r;
            }
        }
        return new int[] {other, target, s, 0};
    }

    int exit(int room, int direction, int what) {
        if (!isObject(room) || !in(direction, 0, 9) || !in(what, 0, 3)) {
            return BAD;
        }
        if (!isA(room, 0)) {
            return found(3);
        }
        int[] e = exitOf(room, direction);
        return e == null ? NONE : e[what];
    }

    private int said(int o, int flag) {
        if (which(6, 6, o, flag, 1) != NONE) {
            return 1;
        }
        if (which(6, 6, o, flag, 0) != NONE) {
            return 0;
        }
        for (int k = objects.get(o)[0]; k != NONE; k = parents.get(k)) {
            int v = defaults.getOrDefault(k + "/" + flag, NONE);
            if (v != NONE) {
                return v;
            }
        }
        return flag == 2 && isA(o, 0) ? 1 : 0;
    }

    int flag(int object, int flag) {
        if (!isObject(object) || !in(flag, 0, 5)) {
            return BAD;
        }
        return canHave(object, flag) ? said(object, flag) : found(3);
    }

    private int keyOf(int o) {
        int s = which(7, 7, NONE, o, NONE);
        return s == NONE ? NONE : sentences.get(s).a;
    }

    int key(int object) {
        if (!isObject(object)) {
            return BAD;
        }
        return isShutter(object) ? keyOf(object) : found(3);
    }

    /** How many exits it takes, by widening rings. */
    private int distance(int a, int b, boolean open) {
        Set<Integer> ring = new HashSet<>(Set.of(a));
        for (int n = 0; n <= objects.size(); n++) {
            if (ring.contains(b)) {
                return n;
            }
            Set<Integer> wider = new HashSet<>(ring);
            for (int r : ring) {
                for (int d = 0; d < 10; d++) {
                    int[] e = exitOf(r, d);
                    if (e != null && e[0] != NONE && (!open || e[1] == NONE || said(e[1], 0) == 1)) {
                        wider.add(e[0]);
                    }
                }
            }
            ring = wider;
        }
        return NONE;
    }

    private int refuseRooms(int a, int b) {
        if (!isObject(a) || !isObject(b)) {
            return BAD;
        }
        return isA(a, 0) && isA(b, 0) ? 0 : found(3);
    }

    int way(int a, int b, boolean open) {
        int r = refuseRooms(a, b);
        return r != 0 ? r : distance(a, b, open);
    }

    int toward(int a, int b, boolean open) {
        int r = refuseRooms(a, b);
        if (r != 0) {
            return r;
        }
        int far = distance(a, b, open);
        for (int d = 0; d < 10 && far > 0; d++) {
            int[] e = exitOf(a, d);
            if (e != null && e[0] != NONE && (!open || e[1] == NONE || said(e[1], 0) == 1)
                    && distance(e[0], b, open) == far - 1) {
                return d;
            }
        }
        return NONE;
    }

    /** All that is up from something, the nearest one first. */
    private List<Integer> up(Stand s, int o) {
        List<Integer> chain = new ArrayList<>();
        for (int[] p = s.place.get(o); p != null; p = s.place.get(p[1])) {
            chain.add(p[1]);
        }
        return chain;
    }

    private int roomUp(Stand s, int o) {
        for (int above : up(s, o)) {
            if (isA(above, 0)) {
                return above;
            }
        }
        return NONE;
    }

    int begin(int person) {
        if (!isObject(person)) {
            return BAD;
        }
        if (!isA(person, 5)) {
            return found(3);
        }
        if (roomUp(asSaid(), person) == NONE) {
            return found(1);
        }
        tale = asSaid();
        player = person;
        past = new ArrayList<>();
        turns = new ArrayList<>();
        return roomUp(tale, person);
    }

    private boolean shuts(Stand s, int o, boolean hand) {
        return isA(o, 3) && !s.open.contains(o) && (hand || said(o, 5) == 0);
    }

    private boolean inView(Stand s, int o, boolean hand) {
        int shell = NONE;
        for (int above : up(s, player)) {
            if (isA(above, 0) || shuts(s, above, hand)) {
                shell = above;
                break;
            }
        }
        if (o == player || o == shell && isA(o, 3)) {
            return true;
        }
        if (isA(o, 2)) {
            return which(5, 5, shell, o, NONE) != NONE;
        }
        for (int above : up(s, o)) {
            if (above == shell) {
                return true;
            }
            if (shuts(s, above, hand)) {
                return false;
            }
        }
        return false;
    }

    private boolean isLight(Stand s) {
        for (int above : up(s, player)) {
            if (isA(above, 0) && said(above, 2) == 1) {
                return true;
            }
            if (isA(above, 0) || shuts(s, above, false)) {
                break;
            }
        }
        for (int o = 0; o < objects.size(); o++) {
            if (isA(o, 1) && said(o, 2) == 1 && inView(s, o, false)) {
                return true;
            }
        }
        return false;
    }

    private boolean isAt(Stand s, int o, int form, int holder) {
        int[] p = s.place.get(o);
        return p != null && p[0] == form && p[1] == holder;
    }

    private boolean seen(Stand s, int o) {
        return isAt(s, o, 2, player) || isAt(s, o, 3, player) || isLight(s) && inView(s, o, false);
    }

    private boolean reached(Stand s, int o) {
        return seen(s, o) && inView(s, o, true);
    }

    private int crowd(Stand s, int form, int holder) {
        int n = 0;
        for (int o = 0; o < objects.size(); o++) {
            n += isAt(s, o, form, holder) ? 1 : 0;
        }
        return n;
    }

    /** The reason, or 0, and then the stand is as the act leaves it. */
    private int tryAct(Stand s, int verb, int x, int y) {
        int[] own = s.place.get(player);
        boolean inRoom = own[0] == 0 && isA(own[1], 0);
        switch (verb) {
            case 0: {
                if (!inRoom) return 1;
                int[] e = exitOf(own[1], x);
                if (e == null || e[0] == NONE) return 2;
                if (e[1] != NONE && !s.open.contains(e[1])) return 3;
                s.place.put(player, new int[] {0, e[0]});
                return 0;
            }
            case 1: {
                if (!seen(s, x)) return 4;
                if (x == player || up(s, player).contains(x)) return 5;
                if (isAt(s, x, 2, player)) return 6;
                if (!isGoods(x) || said(x, 3) == 1 || s.place.get(x)[0] == 4) return 7;
                if (!reached(s, x)) return 8;
                for (int above : up(s, x)) {
                    if (isA(above, 5) && above != player) return 9;
                }
                int sum = reckon(s, x, new ArrayList<>());
                for (int o = 0; o < objects.size(); o++) {
                    sum += isAt(s, o, 2, player) ? reckon(s, o, new ArrayList<>()) : 0;
                }
                if (sum > 100) return 10;
                s.place.put(x, new int[] {2, player});
                return 0;
            }
            case 2:
                if (!isAt(s, x, 2, player)) return 11;
                s.place.put(x, own.clone());
                return 0;
            case 3:
            case 4:
                if (!isAt(s, x, 2, player)) return 11;
                if (!seen(s, y)) return 4;
                if (!isA(y, verb)) return 12;
                if (y == x || up(s, y).contains(x)) return 13;
                if (verb == 3 && !s.open.contains(y)) return 3;
                if (!reached(s, y)) return 8;
                if (crowd(s, verb - 3, y) >= 8) return 14;
                s.place.put(x, new int[] {verb - 3, y});
                return 0;
            case 5:
                if (!seen(s, x)) return 4;
                if (!isShutter(x)) return 12;
                if (s.open.contains(x)) return 15;
                if (s.locked.contains(x)) return 16;
                if (!reached(s, x)) return 8;
                s.open.add(x);
                return 0;
            case 6:
                if (!seen(s, x)) return 4;
                if (!isShutter(x)) return 12;
                if (!s.open.contains(x)) return 3;
                if (!reached(s, x)) return 8;
                s.open.remove(x);
                return 0;
            case 7:
                if (!seen(s, x)) return 4;
                if (!isShutter(x)) return 12;
                if (!s.locked.contains(x)) return 17;
                if (!reached(s, x)) return 8;
                if (!isAt(s, y, 2, player)) return 11;
                if (keyOf(x) != y) return 18;
                s.locked.remove(x);
                return 0;
            case 8:
                if (!seen(s, x)) return 4;
                if (!isShutter(x)) return 12;
                if (s.locked.contains(x)) return 16;
                if (s.open.contains(x)) return 15;
                if (!reached(s, x)) return 8;
                if (!isAt(s, y, 2, player)) return 11;
                if (keyOf(x) != y) return 18;
                s.locked.add(x);
                return 0;
            case 9:
                if (!isAt(s, x, 2, player)) return 11;
                if (said(x, 4) == 0) return 19;
                s.place.put(x, new int[] {3, player});
                return 0;
            case 10:
                if (!seen(s, x)) return 4;
                if (!isA(x, 3) && !isA(x, 4)) return 12;
                if (up(s, x).contains(player)) return 13;
                if (isA(x, 3) && !s.open.contains(x)) return 3;
                if (!reached(s, x)) return 8;
                if (own[1] == x) return 20;
                s.place.put(player, new int[] {isA(x, 3) ? 0 : 1, x});
                return 0;
            case 11: {
                if (inRoom) return 1;
                if (isA(own[1], 3) && !s.open.contains(own[1])) return 3;
                int[] outer = s.place.get(own[1]);
                if (outer == null || outer[0] > 1) return 21;
                s.place.put(player, outer.clone());
                return 0;
            }
            default:
                return 0;
        }
    }

    private static boolean twofold(int verb) {
        return verb == 3 || verb == 4 || verb == 7 || verb == 8;
    }

    int act(int verb, int x, int y) {
        if (!in(verb, 0, 12) || verb == 0 && !in(x, 0, 9) || in(verb, 1, 10) && !isObject(x)
                || twofold(verb) && !isObject(y)) {
            return BAD;
        }
        if (tale != null && turns.size() == 100) {
            return FULL;
        }
        if (tale == null) {
            return STATE;
        }
        Stand before = tale.twin();
        int reason = tryAct(tale, verb, x, y);
        if (reason == 0) {
            past.add(before);
            turns.add(new Deed(verb, verb >= 11 ? 0 : x, twofold(verb) ? y : 0));
        }
        return reason;
    }

    int back() {
        if (tale == null || turns.isEmpty()) {
            return STATE;
        }
        tale = past.remove(past.size() - 1);
        turns.remove(turns.size() - 1);
        return turns.size();
    }

    int now(int object, int what) {
        if (!isObject(object) || !in(what, 0, 6)) {
            return BAD;
        }
        if (tale == null) {
            return STATE;
        }
        int[] p = tale.place.get(object);
        switch (what) {
            case 0: return p == null ? NONE : p[0];
            case 1: return p == null ? NONE : p[1];
            case 2: return !isShutter(object) ? NONE : tale.open.contains(object) ? 1 : 0;
            case 3: return !isShutter(object) ? NONE : tale.locked.contains(object) ? 1 : 0;
            case 4: return seen(tale, object) ? 1 : 0;
            case 5: return reached(tale, object) ? 1 : 0;
            default: return isA(object, 0) ? object : roomUp(tale, object);
        }
    }

    private int part(Deed d, int what) {
        return what == 0 ? d.verb : what == 1 ? d.x : d.y;
    }

    int turn(int i, int what) {
        if (!in(what, 0, 2) || i < 0) {
            return BAD;
        }
        if (tale == null) {
            return STATE;
        }
        return i >= turns.size() ? BAD : part(turns.get(i), what);
    }

    int light() {
        return tale == null ? STATE : isLight(tale) ? 1 : 0;
    }

    int seek(int x, int y, int n) {
        if (!isObject(x) || !isObject(y) || !in(n, 0, 300)) {
            return BAD;
        }
        if (tale == null) {
            return STATE;
        }
        play = search(x, y, n);
        return play == null ? NONE : play.size();
    }

    private boolean isGoal(Stand s, int x, int y) {
        return s.place.get(x) != null && s.place.get(x)[1] == y;
    }

    private List<Deed> search(int goal, int holder, int n) {
        List<Stand> kept = new ArrayList<>(List.of(tale.twin()));
        List<List<Deed>> plays = new ArrayList<>(List.of(List.of()));
        Set<String> texts = new HashSet<>(Set.of(tale.text(objects.size())));
        if (isGoal(tale, goal, holder)) {
            return List.of();
        }
        for (int s = 0; s < n && s < kept.size(); s++) {
            for (int verb = 0; verb <= 11; verb++) {
                int xs = verb == 0 ? 10 : verb == 11 ? 1 : objects.size();
                for (int x = 0; x < xs; x++) {
                    for (int y = 0; y < (twofold(verb) ? objects.size() : 1); y++) {
                        Stand next = kept.get(s).twin();
                        if (tryAct(next, verb, x, y) != 0 || !texts.add(next.text(objects.size()))) {
                            continue;
                        }
                        List<Deed> longer = new ArrayList<>(plays.get(s));
                        longer.add(new Deed(verb, x, y));
                        if (isGoal(next, goal, holder)) {
                            return longer;
                        }
                        kept.add(next);
                        plays.add(longer);
                        if (kept.size() == 300) {
                            return null;
                        }
                    }
                }
            }
        }
        return null;
    }

    int sought(int i, int what) {
        if (!in(what, 0, 2)) {
            return BAD;
        }
        return play == null || !in(i, 0, play.size() - 1) ? NONE : part(play.get(i), what);
    }

    int line(int object, int sort, int n) {
        if (!isObject(object) || !in(sort, 0, 3) || n > 12) {
            return BAD;
        }
        if (n < 0) {
            return found(5);
        }
        lines.put(object, sort == 0 ? new byte[n] : sort == 1 ? new int[n] : sort == 2 ? new float[n] : new long[n]);
        return n;
    }

    private static int sortOf(Object line) {
        return line instanceof byte[] ? 0 : line instanceof int[] ? 1 : line instanceof float[] ? 2 : 3;
    }

    private int refuseItem(int object, int sort, int i) {
        if (!isObject(object) || !in(sort, 0, 3)) {
            return BAD;
        }
        Object line = lines.get(object);
        if (line == null) {
            return found(1);
        }
        if (sortOf(line) != sort) {
            return found(3);
        }
        return in(i, 0, java.lang.reflect.Array.getLength(line) - 1) ? 0 : found(2);
    }

    int put(int object, int sort, int i, long v) {
        int r = refuseItem(object, sort, i);
        if (r != 0) {
            return r;
        }
        Object line = lines.get(object);
        if (line instanceof byte[] bytes) {
            bytes[i] = (byte) v;
        } else if (line instanceof int[] ints) {
            ints[i] = (int) v;
        } else if (line instanceof float[] floats) {
            floats[i] = Float.intBitsToFloat((int) v);
        } else if (line instanceof long[] longs) {
            longs[i] = v;
        }
        return 1;
    }

    int item(int object, int sort, int i) {
        int r = refuseItem(object, sort, i);
        if (r != 0) {
            return r;
        }
        Object line = lines.get(object);
        if (line instanceof byte[] bytes) {
            asked = bytes[i];
        } else if (line instanceof int[] ints) {
            asked = ints[i];
        } else if (line instanceof float[] floats) {
            asked = Float.floatToIntBits(floats[i]);
        } else if (line instanceof long[] longs) {
            asked = longs[i];
        }
        return 1;
    }

    int copy(int from, int sort, int i, int to, int j, int n) {
        if (!isObject(from) || !isObject(to) || !in(sort, 0, 3)) {
            return BAD;
        }
        Object a = lines.get(from);
        Object b = lines.get(to);
        if (a != null && sortOf(a) != sort || b != null && sortOf(b) != sort) {
            return found(3);
        }
        if (a == null || b == null) {
            return found(1);
        }
        try {
            System.arraycopy(a, i, b, j, n);
        } catch (IndexOutOfBoundsException e) {
            return found(2);
        }
        return 1;
    }

    int cast(int sort, int n) {
        if (!in(sort, 1, 5) || n > 12) {
            return BAD;
        }
        if (casts.size() == 10) {
            return FULL;
        }
        if (n < 0) {
            return found(5);
        }
        int[] roles = new int[n];
        Arrays.fill(roles, NONE);
        casts.add(roles);
        castSorts.add(sort);
        return casts.size() - 1;
    }

    int role(int cast, int i, int object) {
        if (!in(cast, 0, casts.size() - 1) || object != NONE && !isObject(object)) {
            return BAD;
        }
        if (object != NONE && isA(object, 0)) {
            return found(3);
        }
        if (!in(i, 0, casts.get(cast).length - 1)) {
            return found(2);
        }
        if (object != NONE && !isA(object, castSorts.get(cast))) {
            return found(6);
        }
        casts.get(cast)[i] = object;
        return 1;
    }

    int who(int cast, int i) {
        if (!in(cast, 0, casts.size() - 1)) {
            return BAD;
        }
        if (!in(i, 0, casts.get(cast).length - 1)) {
            return found(2);
        }
        int o = casts.get(cast)[i];
        return o == NONE ? found(1) : o;
    }

    int count(int what) {
        switch (what) {
            case 0: return parents.size();
            case 1: return objects.size();
            case 2: return sentences.size() - unsaid.size();
            case 3: return sentences.size();
            case 4: return casts.size();
            case 5: return tale == null ? 0 : turns.size();
            case 6: return tale == null ? NONE : player;
            case 7: return play == null ? NONE : play.size();
            default: return BAD;
        }
    }

    int finding() {
        return finding;
    }

    int findings(int f) {
        return in(f, 1, 6) ? findings[f] : BAD;
    }

    long digest() {
        long h = 17;
        for (int k = 0; k < parents.size(); k++) {
            h = 31 * h + parents.get(k);
            for (int f = 0; f < 6; f++) {
                h = 31 * h + defaults.getOrDefault(k + "/" + f, NONE);
            }
        }
        for (int o = 0; o < objects.size(); o++) {
            h = 31 * h + objects.get(o)[0];
            h = 31 * h + objects.get(o)[1];
            h = 31 * h + place(o, 0);
            h = 31 * h + place(o, 1);
            for (int what = 0; tale != null && what <= 5; what++) {
                h = 31 * h + now(o, what);
            }
        }
        for (int s = 0; s < sentences.size(); s++) {
            for (int what = 0; what <= 4; what++) {
                h = 31 * h + sentence(s, what);
            }
        }
        return h;
    }
}
