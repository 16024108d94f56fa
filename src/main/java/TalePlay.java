import java.util.Arrays;

/** Worlds for tales, put together of sentences, and tales that are played in them. */
public final class TalePlay {
    public static final int BAD = -1, FULL = -2, FINDING = -3, CLASH = -4, STATE = -5, NONE = -9;

    private static final int NOTHING = 1, BEYOND = 2, UNLIKE = 3, NOUGHT = 4, SIZE = 5, MISFIT = 6, FINDINGS = 6;
    private static final int ROOM = 0, THING = 1, DOOR = 2, BOX = 3, STAND = 4, PERSON = 5;
    private static final int OPEN = 0, LOCKED = 1, LIT = 2, FIXED = 3, GARMENT = 4, GLASS = 5, FLAGS = 6;
    private static final int IN = 0, ON = 1, HELD = 2, WORN = 3, PART = 4, EXIT = 5, FLAG = 6, KEY = 7;
    /** The acts; UNCLOSE is OPEN, whose name the flag has. */
    private static final int GO = 0, TAKE = 1, DROP = 2, PUT_IN = 3, PUT_ON = 4, UNCLOSE = 5, CLOSE = 6,
            UNLOCK = 7, LOCK = 8, WEAR = 9, ENTER = 10, LEAVE = 11, WAIT = 12;
    /** Why acts are not done. */
    private static final int DONE = 0, NOT_BY_ROOM = 1, NO_WAY = 2, NOT_OPEN = 3, UNSEEN = 4, AROUND_HIM = 5,
            HAS_IT = 6, NOT_FOR_HANDS = 7, NOT_REACHED = 8, ANOTHERS = 9, TOO_MUCH = 10, NOT_HELD = 11,
            UNFIT = 12, IN_ITSELF = 13, EIGHT_THERE = 14, IS_OPEN = 15, IS_LOCKED = 16, NOT_LOCKED = 17,
            WRONG_KEY = 18, NO_GARMENT = 19, THERE_ALREADY = 20, NO_WAY_OUT = 21;
    private static final int MOST_KINDS = 24, MOST_OBJECTS = 30, MOST_SIZE = 99, MOST_SENTENCES = 200,
            MOST_TURNS = 100, MOST_STATES = 300, MOST_TRACE = 100, MOST_ITEMS = 12, MOST_CASTS = 10,
            MOST_ROLES = 12, MOST_BULK = 100, MOST_THERE = 8, DIRECTIONS = 10;
    private static final int BYTES = 0, INTS = 1, FLOATS = 2, LONGS = 3;

    private final World world;
    private final Book book;
    private final Roads roads;
    private final Bulks bulks;
    private final Tale tale;
    private final Lines lines;
    private final Casts casts;
    /** Made by the first search alone: its rows are the largest ones, and most objects never search. */
    private Seeker seeker;
    private final int[] findingCounts;
    private int latestFinding;
    private long told;

    public TalePlay() {
        world = new World();
        book = new Book(world);
        roads = new Roads(world, book);
        bulks = new Bulks(world);
        tale = new Tale(world, book, roads, bulks);
        lines = new Lines();
        casts = new Casts();
        seeker = null;
        findingCounts = new int[FINDINGS + 1];
        latestFinding = 0;
        told = 0;
    }

    // ---- 1 kinds, objects

    public int kind(int parent) {
        if (!world.hasKind(parent)) {
            return BAD;
        }
        if (world.kinds >= MOST_KINDS) {
            return FULL;
        }
        return world.addKind(parent);
    }

    public int standard(int kind, int flag, int v) {
        if (!world.hasKind(kind) || !isBelow(flag, FLAGS) || v != 0 && v != 1 && v != NONE) {
            return BAD;
        }
        tale.end();
        return world.changeStandard(kind, flag, v);
    }

    public int make(int kind, int size) {
        if (!world.hasKind(kind) || size < 0 || size > MOST_SIZE) {
            return BAD;
        }
        if (world.objects >= MOST_OBJECTS) {
            return FULL;
        }
        tale.end();
        return world.addObject(kind, size);
    }

    public int is(int object, int kind) {
        if (!world.hasObject(object) || !world.hasKind(kind)) {
            return BAD;
        }
        return oneIf(world.kindIs(world.kindOf[object], kind));
    }

    public int bulk(int object) {
        if (!world.hasObject(object)) {
            return BAD;
        }
        bulks.clearTrace();
        if (world.sortOf(object) == ROOM) {
            return answerFinding(UNLIKE);
        }
        int bulk = bulks.weighTraced(places(), object);
        if (bulk < 0) {
            return answerFinding(NOUGHT);
        }
        told = bulk;
        return 1;
    }

    public long asked() {
        return told;
    }

    public int trace(int i) {
        return isBelow(i, bulks.traced) ? bulks.trace[i] : NONE;
    }

    public int share(int object, int holder) {
        if (!world.hasObject(object) || !world.hasObject(holder)) {
            return BAD;
        }
        if (world.sortOf(object) == ROOM) {
            return answerFinding(UNLIKE);
        }
        int bulk = bulks.weigh(places(), object);
        int all = bulks.weighAllOf(places(), holder);
        if (bulk < 0 || all <= 0) {
            return answerFinding(NOUGHT);
        }
        told = 1000L * bulk / all;
        return 1;
    }

    // ---- 2 sentences

    public int say(int form, int a, int b, int c) {
        book.clearClash();
        if (!book.isWellFormed(form, a, b, c)) {
            return BAD;
        }
        int last = form == EXIT || form == FLAG ? c : 0;
        if (!book.isFitting(form, a, b)) {
            return answerFinding(UNLIKE);
        }
        int same = book.findSame(form, a, b, last);
        if (same != NONE) {
            return same;
        }
        if (book.total >= MOST_SENTENCES) {
            return FULL;
        }
        if (book.isClashing(form, a, b, last)) {
            return CLASH;
        }
        tale.end();
        int number = book.write(form, a, b, last);
        roads.redrawFor(form);
        return number;
    }

    public int unsay(int sentence) {
        if (!isBelow(sentence, book.total) || !book.said[sentence]) {
            return BAD;
        }
        tale.end();
        book.strike(sentence);
        roads.redrawFor(book.forms[sentence]);
        return book.standing;
    }

    public int clash(int i) {
        return isBelow(i, book.clashes) ? book.clashRow[i] : NONE;
    }

    public int sentence(int sentence, int what) {
        if (!isBelow(sentence, book.total) || !isBelow(what, 5)) {
            return BAD;
        }
        return book.part(sentence, what);
    }

    public int place(int object, int what) {
        if (!world.hasObject(object) || !isBelow(what, 3)) {
            return BAD;
        }
        return switch (what) {
            case 0 -> book.places.formOf(object);
            case 1 -> book.places.holderOf(object);
            default -> book.placeBy[object];
        };
    }

    public int exit(int room, int direction, int what) {
        if (!world.hasObject(room) || !isBelow(direction, DIRECTIONS) || !isBelow(what, 4)) {
            return BAD;
        }
        if (world.sortOf(room) != ROOM) {
            return answerFinding(UNLIKE);
        }
        return roads.tellOf(room * DIRECTIONS + direction, what);
    }

    public int flag(int object, int flag) {
        if (!world.hasObject(object) || !isBelow(flag, FLAGS)) {
            return BAD;
        }
        if (!world.canHave(object, flag)) {
            return answerFinding(UNLIKE);
        }
        return book.saidFlag(object, flag);
    }

    public int key(int object) {
        if (!world.hasObject(object)) {
            return BAD;
        }
        if (!world.isShutter(object)) {
            return answerFinding(UNLIKE);
        }
        return book.keyOf(object);
    }

    public int way(int a, int b, boolean open) {
        int refusal = refuseRooms(a, b);
        if (refusal != 0) {
            return refusal;
        }
        roads.walkFrom(a, open);
        return roads.steps[b];
    }

    public int toward(int a, int b, boolean open) {
        int refusal = refuseRooms(a, b);
        if (refusal != 0) {
            return refusal;
        }
        roads.walkFrom(a, open);
        return roads.firsts[b];
    }

    // ---- 3 tales

    public int begin(int person) {
        if (!world.hasObject(person)) {
            return BAD;
        }
        if (world.sortOf(person) != PERSON) {
            return answerFinding(UNLIKE);
        }
        int room = book.places.roomOf(person);
        if (room == NONE) {
            return answerFinding(NOTHING);
        }
        tale.start(person);
        return room;
    }

    public int act(int verb, int x, int y) {
        if (!tale.isAct(verb, x, y)) {
            return BAD;
        }
        if (tale.turns >= MOST_TURNS) {
            return FULL;
        }
        if (!tale.there) {
            return STATE;
        }
        return tale.play(verb, x, y);
    }

    public int back() {
        if (!tale.there || tale.turns == 0) {
            return STATE;
        }
        tale.undo();
        return tale.turns;
    }

    public int now(int object, int what) {
        if (!world.hasObject(object) || !isBelow(what, 7)) {
            return BAD;
        }
        if (!tale.there) {
            return STATE;
        }
        return tale.tellOf(object, what);
    }

    public int turn(int i, int what) {
        if (!isBelow(what, 3) || i < 0) {
            return BAD;
        }
        if (!tale.there) {
            return STATE;
        }
        if (i >= tale.turns) {
            return BAD;
        }
        return deedPart(tale.deeds[i], what);
    }

    public int light() {
        if (!tale.there) {
            return STATE;
        }
        return oneIf(tale.sight.bright);
    }

    public int seek(int x, int y, int n) {
        if (!world.hasObject(x) || !world.hasObject(y) || n < 0 || n > MOST_STATES) {
            return BAD;
        }
        if (!tale.there) {
            return STATE;
        }
        if (seeker == null) {
            seeker = new Seeker(world, book, roads, bulks);
        }
        seeker.startFrom(tale.scene, tale.player);
        return seeker.search(x, y, n);
    }

    public int sought(int i, int what) {
        if (!isBelow(what, 3)) {
            return BAD;
        }
        if (seeker == null || !isBelow(i, seeker.playLength)) {
            return NONE;
        }
        return deedPart(seeker.play[i], what);
    }

    // ---- 4 lines, casts

    public int line(int object, int sort, int n) {
        if (!world.hasObject(object) || !isBelow(sort, LONGS + 1) || n > MOST_ITEMS) {
            return BAD;
        }
        if (n < 0) {
            return answerFinding(SIZE);
        }
        lines.lay(object, sort, n);
        return n;
    }

    public int put(int object, int sort, int i, long v) {
        int refusal = refuseItem(object, sort, i);
        if (refusal != 0) {
            return refusal;
        }
        lines.items[object * MOST_ITEMS + i] = lines.cutTo(sort, v);
        return 1;
    }

    public int item(int object, int sort, int i) {
        int refusal = refuseItem(object, sort, i);
        if (refusal != 0) {
            return refusal;
        }
        told = lines.items[object * MOST_ITEMS + i];
        return 1;
    }

    public int copy(int from, int sort, int i, int to, int j, int n) {
        if (!world.hasObject(from) || !world.hasObject(to) || !isBelow(sort, LONGS + 1)) {
            return BAD;
        }
        if (lines.isOther(from, sort) || lines.isOther(to, sort)) {
            return answerFinding(UNLIKE);
        }
        if (lines.sorts[from] == NONE || lines.sorts[to] == NONE) {
            return answerFinding(NOTHING);
        }
        if (!lines.hasRun(from, i, n) || !lines.hasRun(to, j, n)) {
            return answerFinding(BEYOND);
        }
        System.arraycopy(lines.items, from * MOST_ITEMS + i, lines.items, to * MOST_ITEMS + j, n);
        return 1;
    }

    public int cast(int sort, int n) {
        if (sort < THING || sort > PERSON || n > MOST_ROLES) {
            return BAD;
        }
        if (casts.made >= MOST_CASTS) {
            return FULL;
        }
        if (n < 0) {
            return answerFinding(SIZE);
        }
        return casts.open(sort, n);
    }

    public int role(int cast, int i, int object) {
        if (!isBelow(cast, casts.made) || object != NONE && !world.hasObject(object)) {
            return BAD;
        }
        if (object != NONE && world.sortOf(object) == ROOM) {
            return answerFinding(UNLIKE);
        }
        if (!isBelow(i, casts.lengths[cast])) {
            return answerFinding(BEYOND);
        }
        if (object != NONE && !world.isOfSort(object, casts.sorts[cast])) {
            return answerFinding(MISFIT);
        }
        casts.roles[cast * MOST_ROLES + i] = object;
        return 1;
    }

    public int who(int cast, int i) {
        if (!isBelow(cast, casts.made)) {
            return BAD;
        }
        if (!isBelow(i, casts.lengths[cast])) {
            return answerFinding(BEYOND);
        }
        int object = casts.roles[cast * MOST_ROLES + i];
        return object == NONE ? answerFinding(NOTHING) : object;
    }

    // ---- 5 what is told

    public int count(int what) {
        return switch (what) {
            case 0 -> world.kinds;
            case 1 -> world.objects;
            case 2 -> book.standing;
            case 3 -> book.total;
            case 4 -> casts.made;
            case 5 -> tale.turns;
            case 6 -> tale.there ? tale.player : NONE;
            case 7 -> seeker == null ? NONE : seeker.playLength;
            default -> BAD;
        };
    }

    public int finding() {
        return latestFinding;
    }

    public int findings(int f) {
        return f < 1 || f > FINDINGS ? BAD : findingCounts[f];
    }

    public long digest() {
        return digestSentences(digestObjects(digestKinds(17L)));
    }

    private long digestKinds(long start) {
        long h = start;
        for (int k = 0; k < world.kinds; k++) {
            h = 31 * h + world.parents[k];
            for (int f = 0; f < FLAGS; f++) {
                h = 31 * h + world.standards[k * FLAGS + f];
            }
        }
        return h;
    }

    private long digestObjects(long start) {
        long h = start;
        for (int o = 0; o < world.objects; o++) {
            h = 31 * h + world.kindOf[o];
            h = 31 * h + world.sizeOf[o];
            h = 31 * h + book.places.formOf(o);
            h = 31 * h + book.places.holderOf(o);
            for (int what = 0; tale.there && what < 6; what++) {
                h = 31 * h + tale.tellOf(o, what);
            }
        }
        return h;
    }

    private long digestSentences(long start) {
        long h = start;
        for (int s = 0; s < book.total; s++) {
            for (int what = 0; what < 5; what++) {
                h = 31 * h + book.part(s, what);
            }
        }
        return h;
    }

    private int answerFinding(int finding) {
        latestFinding = finding;
        findingCounts[finding]++;
        return FINDING;
    }

    /** The places that count now: those of the tale, else those that are said. */
    private Scene places() {
        return tale.there ? tale.scene : book.places;
    }

    private int refuseRooms(int a, int b) {
        if (!world.hasObject(a) || !world.hasObject(b)) {
            return BAD;
        }
        if (world.sortOf(a) != ROOM || world.sortOf(b) != ROOM) {
            return answerFinding(UNLIKE);
        }
        return 0;
    }

    private int refuseItem(int object, int sort, int i) {
        if (!world.hasObject(object) || !isBelow(sort, LONGS + 1)) {
            return BAD;
        }
        if (lines.sorts[object] == NONE) {
            return answerFinding(NOTHING);
        }
        if (lines.isOther(object, sort)) {
            return answerFinding(UNLIKE);
        }
        return isBelow(i, lines.lengths[object]) ? 0 : answerFinding(BEYOND);
    }

    private static boolean isBelow(int i, int bound) {
        return i >= 0 && i < bound;
    }

    private static int oneIf(boolean holds) {
        return holds ? 1 : 0;
    }

    /** An act with its x and y in one number, as turns and plays are kept. */
    private static int deedOf(int verb, int x, int y) {
        return verb << 10 | x << 5 | y;
    }

    private static int deedPart(int deed, int what) {
        return switch (what) {
            case 0 -> deed >> 10;
            case 1 -> deed >> 5 & 31;
            default -> deed & 31;
        };
    }

    /** The kinds, the objects, and what an object is by its kind. */
    private static final class World {
        final int[] parents = new int[MOST_KINDS];
        /** Which of the six first kinds a kind is; of those beneath THING the nearest one. */
        final int[] sorts = new int[MOST_KINDS];
        final int[] standards = new int[MOST_KINDS * FLAGS];
        final int[] kindOf = new int[MOST_OBJECTS];
        final int[] sizeOf = new int[MOST_OBJECTS];
        int kinds;
        int objects;

        World() {
            Arrays.fill(standards, NONE);
            for (int k = ROOM; k <= PERSON; k++) {
                parents[k] = k <= THING ? NONE : THING;
                sorts[k] = k;
            }
            kinds = PERSON + 1;
        }

        boolean hasKind(int kind) {
            return kind >= 0 && kind < kinds;
        }

        boolean hasObject(int object) {
            return object >= 0 && object < objects;
        }

        int addKind(int parent) {
            parents[kinds] = parent;
            sorts[kinds] = sorts[parent];
            return kinds++;
        }

        int addObject(int kind, int size) {
            kindOf[objects] = kind;
            sizeOf[objects] = size;
            return objects++;
        }

        int changeStandard(int kind, int flag, int v) {
            int old = standards[kind * FLAGS + flag];
            standards[kind * FLAGS + flag] = v;
            return old;
        }

        boolean kindIs(int kind, int other) {
            int k = kind;
            for (int up = 0; up < MOST_KINDS && k != NONE; up++) {
                if (k == other) {
                    return true;
                }
                k = parents[k];
            }
            return false;
        }

        /** Any number may be asked for: ways up end at NONE. */
        int sortOf(int object) {
            return object >= 0 && object < objects ? sorts[kindOf[object]] : NONE;
        }

        boolean isOfSort(int object, int sort) {
            int own = sortOf(object);
            return own == sort || sort == THING && own > THING;
        }

        boolean isMovable(int object) {
            int sort = sortOf(object);
            return sort == THING || sort >= BOX;
        }

        boolean isGoods(int object) {
            return isMovable(object) && sortOf(object) != PERSON;
        }

        boolean isShutter(int object) {
            int sort = sortOf(object);
            return sort == DOOR || sort == BOX;
        }

        boolean canHave(int object, int flag) {
            return switch (flag) {
                case OPEN, LOCKED -> isShutter(object);
                case FIXED -> isMovable(object);
                case GARMENT -> isGoods(object);
                case GLASS -> sortOf(object) == BOX;
                default -> true;
            };
        }

        int standardFor(int object, int flag) {
            int k = kindOf[object];
            for (int up = 0; up < MOST_KINDS && k != NONE; up++) {
                int v = standards[k * FLAGS + flag];
                if (v != NONE) {
                    return v;
                }
                k = parents[k];
            }
            return flag == LIT && sortOf(object) == ROOM ? 1 : 0;
        }
    }

    /**
     * Where objects are and what their flags are, packed into one number for each: an act then changes one number, so
     * that turns are undone and states are told apart by few looks.
     */
    private static final class Scene {
        static final int PLACE_BITS = 8, PLACE_MASK = 255, NOWHERE = 255, NO_FORM = 7, NO_HOLDER = 31;
        final World world;
        final int[] cells = new int[MOST_OBJECTS];

        Scene(World world) {
            this.world = world;
            Arrays.fill(cells, NOWHERE);
        }

        static int placed(int cell, int form, int holder) {
            return cell & ~PLACE_MASK | holder << 3 | form;
        }

        static int flagged(int cell, int flag, boolean on) {
            int bit = 1 << PLACE_BITS + flag;
            return on ? cell | bit : cell & ~bit;
        }

        int formOf(int object) {
            int form = cells[object] & 7;
            return form == NO_FORM ? NONE : form;
        }

        int holderOf(int object) {
            int holder = cells[object] >> 3 & 31;
            return holder == NO_HOLDER ? NONE : holder;
        }

        boolean lies(int object, int form, int holder) {
            return (cells[object] & PLACE_MASK) == (holder << 3 | form);
        }

        boolean has(int object, int flag) {
            return (cells[object] >> PLACE_BITS + flag & 1) == 1;
        }

        boolean isUp(int above, int below) {
            int o = holderOf(below);
            for (int up = 0; up < MOST_OBJECTS && o != NONE; up++) {
                if (o == above) {
                    return true;
                }
                o = holderOf(o);
            }
            return false;
        }

        int roomOf(int object) {
            int o = object;
            for (int up = 0; up <= MOST_OBJECTS && o != NONE; up++) {
                if (world.sortOf(o) == ROOM) {
                    return o;
                }
                o = holderOf(o);
            }
            return NONE;
        }

        int countOf(int form, int holder) {
            int n = 0;
            for (int o = 0; o < world.objects; o++) {
                if (lies(o, form, holder)) {
                    n++;
                }
            }
            return n;
        }
    }

    /** The sentences, and by which of them something is as it is said to be. */
    private static final class Book {
        final World world;
        final Scene places;
        final int[] forms = new int[MOST_SENTENCES];
        final int[] as = new int[MOST_SENTENCES];
        final int[] bs = new int[MOST_SENTENCES];
        final int[] cs = new int[MOST_SENTENCES];
        final boolean[] said = new boolean[MOST_SENTENCES];
        final int[] placeBy = new int[MOST_OBJECTS];
        final int[] exitBy = new int[MOST_OBJECTS * DIRECTIONS];
        final int[] flagBy = new int[MOST_OBJECTS * FLAGS];
        final int[] keyBy = new int[MOST_OBJECTS];
        final int[] clashRow = new int[MOST_OBJECTS];
        int clashes;
        int total;
        int standing;

        Book(World world) {
            this.world = world;
            places = new Scene(world);
            Arrays.fill(placeBy, NONE);
            Arrays.fill(exitBy, NONE);
            Arrays.fill(flagBy, NONE);
            Arrays.fill(keyBy, NONE);
        }

        boolean isWellFormed(int form, int a, int b, int c) {
            if (form < IN || form > KEY || !world.hasObject(a)) {
                return false;
            }
            if (form == FLAG) {
                return isBelow(b, FLAGS) && (c == 0 || c == 1);
            }
            return world.hasObject(b) && (form != EXIT || isBelow(c, DIRECTIONS));
        }

        boolean isFitting(int form, int a, int b) {
            int sort = world.sortOf(b);
            return switch (form) {
                case IN -> world.isMovable(a) && (sort == ROOM || sort == BOX);
                case ON -> world.isMovable(a) && sort == STAND;
                case HELD, WORN -> world.isGoods(a) && sort == PERSON;
                case PART -> world.isGoods(a) && sort != ROOM;
                case EXIT -> world.sortOf(a) == ROOM && (sort == ROOM || sort == DOOR);
                case FLAG -> world.canHave(a, b);
                default -> world.isGoods(a) && world.isShutter(b);
            };
        }

        /** The sentence that stands where such a one would: only one can. */
        int standingFor(int form, int a, int b, int c) {
            return switch (form) {
                case EXIT -> exitBy[a * DIRECTIONS + c];
                case FLAG -> flagBy[a * FLAGS + b];
                case KEY -> keyBy[b];
                default -> placeBy[a];
            };
        }

        int findSame(int form, int a, int b, int c) {
            int s = standingFor(form, a, b, c);
            boolean same = s != NONE && forms[s] == form && as[s] == a && bs[s] == b && cs[s] == c;
            return same ? s : NONE;
        }

        int write(int form, int a, int b, int c) {
            int s = total++;
            forms[s] = form;
            as[s] = a;
            bs[s] = b;
            cs[s] = c;
            said[s] = true;
            standing++;
            point(s, s);
            return s;
        }

        void strike(int s) {
            said[s] = false;
            standing--;
            point(s, NONE);
        }

        /** Lets what a sentence speaks of be by another number: its own, or by none. */
        private void point(int s, int by) {
            int a = as[s];
            switch (forms[s]) {
                case EXIT -> exitBy[a * DIRECTIONS + cs[s]] = by;
                case FLAG -> flagBy[a * FLAGS + bs[s]] = by;
                case KEY -> keyBy[bs[s]] = by;
                default -> {
                    placeBy[a] = by;
                    places.cells[a] = by == NONE ? Scene.NOWHERE : Scene.placed(0, forms[s], bs[s]);
                }
            }
        }

        int part(int s, int what) {
            return switch (what) {
                case 0 -> forms[s];
                case 1 -> as[s];
                case 2 -> bs[s];
                case 3 -> cs[s];
                default -> oneIf(said[s]);
            };
        }

        int saidFlag(int object, int flag) {
            int s = flagBy[object * FLAGS + flag];
            return s == NONE ? world.standardFor(object, flag) : cs[s];
        }

        int keyOf(int shutter) {
            int s = keyBy[shutter];
            return s == NONE ? NONE : as[s];
        }

        void clearClash() {
            clashes = 0;
        }

        private boolean addClash(int s) {
            if (s == NONE || clashes >= clashRow.length) {
                return false;
            }
            clashRow[clashes++] = s;
            return true;
        }

        boolean isClashing(int form, int a, int b, int c) {
            if (addClash(standingFor(form, a, b, c))) {
                return true;
            }
            return switch (form) {
                case EXIT -> world.sortOf(b) == DOOR && isDoorClashing(a, b);
                case FLAG -> isFlagClashing(a, b, c);
                case KEY -> false;
                default -> isPlaceClashing(form, a, b);
            };
        }

        private boolean isPlaceClashing(int form, int a, int b) {
            if (a == b) {
                return true;
            }
            if (places.isUp(a, b)) {
                addChain(a, b);
                return true;
            }
            return form == WORN && addClash(saying(a, GARMENT, 0));
        }

        private void addChain(int a, int b) {
            int o = b;
            for (int up = 0; up < MOST_OBJECTS && o != a && o != NONE; up++) {
                addClash(placeBy[o]);
                o = places.holderOf(o);
            }
        }

        private boolean isDoorClashing(int a, int door) {
            for (int d = 0; d < DIRECTIONS; d++) {
                int s = exitBy[a * DIRECTIONS + d];
                if (s != NONE && bs[s] == door) {
                    return addClash(s);
                }
            }
            for (int s = 0; s < total; s++) {
                if (said[s] && forms[s] == EXIT && bs[s] == door) {
                    addClash(s);
                }
            }
            if (clashes >= 2) {
                return true;
            }
            clearClash();
            return false;
        }

        private boolean isFlagClashing(int a, int flag, int v) {
            return switch (flag) {
                case OPEN -> v == 1 && addClash(saying(a, LOCKED, 1));
                case LOCKED -> v == 1 && addClash(saying(a, OPEN, 1));
                case GARMENT -> v == 0 && places.formOf(a) == WORN && addClash(placeBy[a]);
                default -> false;
            };
        }

        private int saying(int object, int flag, int v) {
            int s = flagBy[object * FLAGS + flag];
            return s != NONE && cs[s] == v ? s : NONE;
        }
    }

    /** The map that the sentences draw: what each exit of each room is. */
    private static final class Roads {
        final World world;
        final Book book;
        final int[] leads = new int[MOST_OBJECTS * DIRECTIONS];
        final int[] doors = new int[MOST_OBJECTS * DIRECTIONS];
        final int[] bys = new int[MOST_OBJECTS * DIRECTIONS];
        /** 1 where an exit is implied, else 0. */
        final int[] implied = new int[MOST_OBJECTS * DIRECTIONS];
        final int[] firstSides = new int[MOST_OBJECTS];
        final int[] secondSides = new int[MOST_OBJECTS];
        final int[] steps = new int[MOST_OBJECTS];
        final int[] firsts = new int[MOST_OBJECTS];
        final int[] queue = new int[MOST_OBJECTS];

        Roads(World world, Book book) {
            this.world = world;
            this.book = book;
            wipe();
        }

        private void wipe() {
            Arrays.fill(leads, NONE);
            Arrays.fill(doors, NONE);
            Arrays.fill(bys, NONE);
            Arrays.fill(implied, 0);
            Arrays.fill(firstSides, NONE);
            Arrays.fill(secondSides, NONE);
        }

        /** Drawn whole each time: one sentence may lay bare or hide what others imply. */
        void redrawFor(int form) {
            if (form != EXIT) {
                return;
            }
            wipe();
            drawSaid();
            drawImplied();
            drawThroughDoors();
        }

        private boolean isDrawn(int s) {
            return book.said[s] && book.forms[s] == EXIT;
        }

        private void drawSaid() {
            for (int s = 0; s < book.total; s++) {
                if (isDrawn(s)) {
                    int slot = book.as[s] * DIRECTIONS + book.cs[s];
                    bys[slot] = s;
                    drawTarget(slot, book.as[s], book.bs[s]);
                }
            }
        }

        private void drawTarget(int slot, int room, int target) {
            if (world.sortOf(target) == ROOM) {
                leads[slot] = target;
                return;
            }
            doors[slot] = target;
            if (firstSides[target] == NONE) {
                firstSides[target] = room;
            } else {
                secondSides[target] = room;
            }
        }

        private void drawImplied() {
            for (int s = 0; s < book.total; s++) {
                if (isDrawn(s) && world.sortOf(book.bs[s]) == ROOM) {
                    int slot = book.bs[s] * DIRECTIONS + (book.cs[s] ^ 1);
                    if (bys[slot] == NONE) {
                        bys[slot] = s;
                        leads[slot] = book.as[s];
                        implied[slot] = 1;
                    }
                }
            }
        }

        private void drawThroughDoors() {
            for (int slot = 0; slot < doors.length; slot++) {
                int door = doors[slot];
                if (door != NONE) {
                    boolean isFirst = firstSides[door] == slot / DIRECTIONS;
                    leads[slot] = isFirst ? secondSides[door] : firstSides[door];
                }
            }
        }

        int tellOf(int slot, int what) {
            if (bys[slot] == NONE) {
                return NONE;
            }
            return switch (what) {
                case 0 -> leads[slot];
                case 1 -> doors[slot];
                case 2 -> bys[slot];
                default -> implied[slot];
            };
        }

        boolean isSide(int room, int door) {
            return room != NONE && (firstSides[door] == room || secondSides[door] == room);
        }

        /**
         * Tells of each room how many exits it takes and with which one begins. Rooms come in the order of
         * their first directions, so the first way that is found to a room has the least one.
         */
        void walkFrom(int start, boolean openAlone) {
            Arrays.fill(steps, NONE);
            Arrays.fill(firsts, NONE);
            steps[start] = 0;
            queue[0] = start;
            int known = 1;
            for (int head = 0; head < known && head < MOST_OBJECTS; head++) {
                int room = queue[head];
                for (int d = 0; d < DIRECTIONS; d++) {
                    int next = leads[room * DIRECTIONS + d];
                    if (next != NONE && steps[next] == NONE && isPassable(room * DIRECTIONS + d, openAlone)) {
                        steps[next] = steps[room] + 1;
                        firsts[next] = room == start ? d : firsts[room];
                        queue[known++] = next;
                    }
                }
            }
        }

        private boolean isPassable(int slot, boolean openAlone) {
            return !openAlone || doors[slot] == NONE || book.saidFlag(doors[slot], OPEN) == 1;
        }
    }

    /** The bodies by which a bulk is reckoned, and the trace that they leave. */
    private static final class Bulks {
        /** The number of the body of each sort; rooms have none. */
        private static final int[] BODIES = {0, 1, 4, 2, 3, 5};
        final World world;
        final int[] trace = new int[MOST_TRACE];
        int traced;
        boolean tracing;

        Bulks(World world) {
            this.world = world;
        }

        void clearTrace() {
            traced = 0;
        }

        /** The bulk of a thing, below 0 where it would be shared among none. */
        int weigh(Scene scene, int object) {
            return weighBy(scene, object, 0);
        }

        int weighTraced(Scene scene, int object) {
            tracing = true;
            int bulk = weighBy(scene, object, 0);
            tracing = false;
            return bulk;
        }

        /** The bulks of all that an object has at once; none of them is a door, so each has one. */
        int weighAllOf(Scene scene, int holder) {
            int sum = 0;
            for (int o = 0; o < world.objects; o++) {
                if (scene.holderOf(o) == holder) {
                    sum += weighBy(scene, o, 0);
                }
            }
            return sum;
        }

        private int weighBy(Scene scene, int object, int depth) {
            if (depth > MOST_OBJECTS) {
                return 0;
            }
            int sort = world.sortOf(object);
            noteBodies(sort);
            int size = world.sizeOf[object];
            return switch (sort) {
                case BOX -> size + weighThose(scene, IN, object, depth);
                case STAND -> size + weighThose(scene, ON, object, depth);
                case DOOR -> size == 0 ? NONE : 100 / size;
                case PERSON -> 2 * size;
                default -> size;
            };
        }

        private int weighThose(Scene scene, int form, int holder, int depth) {
            int sum = 0;
            for (int o = 0; o < world.objects; o++) {
                if (scene.lies(o, form, holder)) {
                    sum += weighBy(scene, o, depth + 1);
                }
            }
            return sum;
        }

        /** Each body but that of mere things asks the one of things first of all, so two begin at once. */
        private void noteBodies(int sort) {
            if (sort == BOX || sort == STAND || sort == DOOR || sort == PERSON) {
                note(BODIES[sort]);
            }
            note(BODIES[THING]);
        }

        private void note(int body) {
            if (tracing && traced < MOST_TRACE) {
                trace[traced++] = body;
            }
        }
    }

    /** What the player of a scene sees and reaches. */
    private static final class Sight {
        final World world;
        final Roads roads;
        final Scene scene;
        final boolean[] seen = new boolean[MOST_OBJECTS];
        final boolean[] reached = new boolean[MOST_OBJECTS];
        boolean bright;

        Sight(World world, Roads roads, Scene scene) {
            this.world = world;
            this.roads = roads;
            this.scene = scene;
        }

        void look(int player) {
            int shell = shellOf(player, false);
            int hand = shellOf(player, true);
            bright = world.sortOf(shell) == ROOM && scene.has(shell, LIT);
            for (int o = 0; o < world.objects; o++) {
                seen[o] = o == player || isInView(o, shell, false);
                bright = bright || seen[o] && scene.has(o, LIT);
            }
            for (int o = 0; o < world.objects; o++) {
                boolean own = scene.lies(o, HELD, player) || scene.lies(o, WORN, player);
                seen[o] = own || bright && seen[o];
                reached[o] = seen[o] && (o == player || isInView(o, hand, true));
            }
        }

        /** With lids it is the hand that is asked for: glass stops it, too. */
        private boolean isCover(int object, boolean lids) {
            return world.sortOf(object) == BOX && !scene.has(object, OPEN) && (lids || !scene.has(object, GLASS));
        }

        private int shellOf(int player, boolean lids) {
            int o = scene.holderOf(player);
            for (int up = 0; up < MOST_OBJECTS && o != NONE; up++) {
                if (world.sortOf(o) == ROOM || isCover(o, lids)) {
                    return o;
                }
                o = scene.holderOf(o);
            }
            return NONE;
        }

        private boolean isInView(int object, int shell, boolean lids) {
            if (object == shell) {
                return world.sortOf(shell) == BOX;
            }
            if (world.sortOf(object) == DOOR) {
                return roads.isSide(shell, object);
            }
            int o = scene.holderOf(object);
            for (int up = 0; up < MOST_OBJECTS && o != NONE; up++) {
                if (o == shell) {
                    return true;
                }
                if (isCover(o, lids)) {
                    return false;
                }
                o = scene.holderOf(o);
            }
            return false;
        }
    }

    /** The acts: why they are not done, and what they do. Each changes one cell of the scene at most. */
    private static final class Acts {
        final World world;
        final Book book;
        final Roads roads;
        final Bulks bulks;
        final Scene scene;
        final Sight sight;
        int player;

        Acts(World world, Book book, Roads roads, Bulks bulks, Sight sight) {
            this.world = world;
            this.book = book;
            this.roads = roads;
            this.bulks = bulks;
            this.scene = sight.scene;
            this.sight = sight;
            player = NONE;
        }

        static boolean hasX(int verb) {
            return verb < LEAVE;
        }

        static boolean hasY(int verb) {
            return verb == PUT_IN || verb == PUT_ON || verb == UNLOCK || verb == LOCK;
        }

        /** The reasons that x alone gives: all of them stand ahead of those that y gives. */
        int reasonOfX(int verb, int x) {
            return switch (verb) {
                case GO -> reasonToGo(x);
                case TAKE -> reasonToTake(x);
                case DROP, PUT_IN, PUT_ON -> isHeld(x) ? DONE : NOT_HELD;
                case UNCLOSE, CLOSE, UNLOCK, LOCK -> reasonOfShutter(verb, x);
                case WEAR -> reasonToWear(x);
                case ENTER -> reasonToEnter(x);
                case LEAVE -> reasonToLeave();
                default -> DONE;
            };
        }

        int reasonOfY(int verb, int x, int y) {
            return switch (verb) {
                case PUT_IN -> reasonToPut(x, IN, y);
                case PUT_ON -> reasonToPut(x, ON, y);
                case UNLOCK, LOCK -> reasonOfKey(x, y);
                default -> DONE;
            };
        }

        private boolean isHeld(int object) {
            return scene.lies(object, HELD, player);
        }

        private boolean isByRoom() {
            return scene.formOf(player) == IN && world.sortOf(scene.holderOf(player)) == ROOM;
        }

        private int reasonToGo(int direction) {
            if (!isByRoom()) {
                return NOT_BY_ROOM;
            }
            int slot = scene.holderOf(player) * DIRECTIONS + direction;
            if (roads.leads[slot] == NONE) {
                return NO_WAY;
            }
            int door = roads.doors[slot];
            return door != NONE && !scene.has(door, OPEN) ? NOT_OPEN : DONE;
        }

        private int reasonToTake(int x) {
            if (!sight.seen[x]) {
                return UNSEEN;
            }
            if (x == player || scene.isUp(x, player)) {
                return AROUND_HIM;
            }
            if (isHeld(x)) {
                return HAS_IT;
            }
            if (!world.isGoods(x) || scene.has(x, FIXED) || scene.formOf(x) == PART) {
                return NOT_FOR_HANDS;
            }
            if (!sight.reached[x]) {
                return NOT_REACHED;
            }
            if (isAnothers(x)) {
                return ANOTHERS;
            }
            int bulk = bulks.weighBy(scene, x, 0) + bulks.weighThose(scene, HELD, player, 0);
            return bulk > MOST_BULK ? TOO_MUCH : DONE;
        }

        private boolean isAnothers(int x) {
            int o = scene.holderOf(x);
            for (int up = 0; up < MOST_OBJECTS && o != NONE; up++) {
                if (o != player && world.sortOf(o) == PERSON) {
                    return true;
                }
                o = scene.holderOf(o);
            }
            return false;
        }

        private int reasonToPut(int x, int form, int y) {
            if (!sight.seen[y]) {
                return UNSEEN;
            }
            if (world.sortOf(y) != (form == IN ? BOX : STAND)) {
                return UNFIT;
            }
            if (y == x || scene.isUp(x, y)) {
                return IN_ITSELF;
            }
            if (form == IN && !scene.has(y, OPEN)) {
                return NOT_OPEN;
            }
            if (!sight.reached[y]) {
                return NOT_REACHED;
            }
            return scene.countOf(form, y) >= MOST_THERE ? EIGHT_THERE : DONE;
        }

        private int reasonOfShutter(int verb, int x) {
            if (!sight.seen[x]) {
                return UNSEEN;
            }
            if (!world.isShutter(x)) {
                return UNFIT;
            }
            int reason = reasonOfLeaf(verb, scene.has(x, OPEN), scene.has(x, LOCKED));
            if (reason != DONE) {
                return reason;
            }
            return sight.reached[x] ? DONE : NOT_REACHED;
        }

        private static int reasonOfLeaf(int verb, boolean open, boolean locked) {
            return switch (verb) {
                case UNCLOSE -> open ? IS_OPEN : locked ? IS_LOCKED : DONE;
                case CLOSE -> open ? DONE : NOT_OPEN;
                case UNLOCK -> locked ? DONE : NOT_LOCKED;
                default -> locked ? IS_LOCKED : open ? IS_OPEN : DONE;
            };
        }

        private int reasonOfKey(int x, int y) {
            if (!isHeld(y)) {
                return NOT_HELD;
            }
            return book.keyOf(x) == y ? DONE : WRONG_KEY;
        }

        private int reasonToWear(int x) {
            if (!isHeld(x)) {
                return NOT_HELD;
            }
            return scene.has(x, GARMENT) ? DONE : NO_GARMENT;
        }

        private int reasonToEnter(int x) {
            if (!sight.seen[x]) {
                return UNSEEN;
            }
            int sort = world.sortOf(x);
            if (sort != BOX && sort != STAND) {
                return UNFIT;
            }
            if (scene.isUp(player, x)) {
                return IN_ITSELF;
            }
            if (sort == BOX && !scene.has(x, OPEN)) {
                return NOT_OPEN;
            }
            if (!sight.reached[x]) {
                return NOT_REACHED;
            }
            return scene.holderOf(player) == x ? THERE_ALREADY : DONE;
        }

        private int reasonToLeave() {
            int around = scene.holderOf(player);
            if (around == NONE || isByRoom()) {
                return NOT_BY_ROOM;
            }
            if (world.sortOf(around) == BOX && !scene.has(around, OPEN)) {
                return NOT_OPEN;
            }
            int form = scene.formOf(around);
            return form == IN || form == ON ? DONE : NO_WAY_OUT;
        }

        /** Whose cell an act changes. */
        int subjectOf(int verb, int x) {
            return verb == GO || verb >= ENTER ? player : x;
        }

        /** What the cell of the subject is behind an act that can be done. */
        int outcomeOf(int verb, int x, int y) {
            int cell = scene.cells[subjectOf(verb, x)];
            return switch (verb) {
                case GO -> Scene.placed(cell, IN, roads.leads[scene.holderOf(player) * DIRECTIONS + x]);
                case TAKE -> Scene.placed(cell, HELD, player);
                case DROP -> Scene.placed(cell, scene.formOf(player), scene.holderOf(player));
                case PUT_IN -> Scene.placed(cell, IN, y);
                case PUT_ON -> Scene.placed(cell, ON, y);
                case UNCLOSE, CLOSE -> Scene.flagged(cell, OPEN, verb == UNCLOSE);
                case UNLOCK, LOCK -> Scene.flagged(cell, LOCKED, verb == LOCK);
                case WEAR -> Scene.placed(cell, WORN, player);
                case ENTER -> Scene.placed(cell, world.sortOf(x) == BOX ? IN : ON, x);
                case LEAVE -> placedAs(cell, scene.holderOf(player));
                default -> cell;
            };
        }

        private int placedAs(int cell, int model) {
            return Scene.placed(cell, scene.formOf(model), scene.holderOf(model));
        }
    }

    /** A tale as it stands, with its turns and what each of them changed. */
    private static final class Tale {
        final World world;
        final Book book;
        final Scene scene;
        final Sight sight;
        final Acts acts;
        final int[] deeds = new int[MOST_TURNS];
        final int[] subjects = new int[MOST_TURNS];
        final int[] formerCells = new int[MOST_TURNS];
        boolean there;
        int player;
        int turns;

        Tale(World world, Book book, Roads roads, Bulks bulks) {
            this.world = world;
            this.book = book;
            scene = new Scene(world);
            sight = new Sight(world, roads, scene);
            acts = new Acts(world, book, roads, bulks, sight);
            player = NONE;
        }

        void start(int person) {
            for (int o = 0; o < world.objects; o++) {
                scene.cells[o] = cellAsSaid(o);
            }
            there = true;
            player = person;
            acts.player = person;
            turns = 0;
            sight.look(player);
        }

        private int cellAsSaid(int object) {
            int cell = book.places.cells[object];
            for (int f = 0; f < FLAGS; f++) {
                if (world.canHave(object, f)) {
                    cell = Scene.flagged(cell, f, book.saidFlag(object, f) == 1);
                }
            }
            return cell;
        }

        void end() {
            there = false;
            turns = 0;
        }

        boolean isAct(int verb, int x, int y) {
            if (verb < GO || verb > WAIT) {
                return false;
            }
            if (verb == GO) {
                return isBelow(x, DIRECTIONS);
            }
            return (!Acts.hasX(verb) || world.hasObject(x)) && (!Acts.hasY(verb) || world.hasObject(y));
        }

        int play(int verb, int x, int y) {
            int reason = acts.reasonOfX(verb, x);
            if (reason == DONE) {
                reason = acts.reasonOfY(verb, x, y);
            }
            if (reason == DONE) {
                doIt(verb, x, y);
            }
            return reason;
        }

        private void doIt(int verb, int x, int y) {
            int subject = acts.subjectOf(verb, x);
            deeds[turns] = deedOf(verb, Acts.hasX(verb) ? x : 0, Acts.hasY(verb) ? y : 0);
            subjects[turns] = subject;
            formerCells[turns] = scene.cells[subject];
            turns++;
            scene.cells[subject] = acts.outcomeOf(verb, x, y);
            sight.look(player);
        }

        void undo() {
            turns--;
            scene.cells[subjects[turns]] = formerCells[turns];
            sight.look(player);
        }

        int tellOf(int object, int what) {
            return switch (what) {
                case 0 -> scene.formOf(object);
                case 1 -> scene.holderOf(object);
                case 2 -> world.isShutter(object) ? oneIf(scene.has(object, OPEN)) : NONE;
                case 3 -> world.isShutter(object) ? oneIf(scene.has(object, LOCKED)) : NONE;
                case 4 -> oneIf(sight.seen[object]);
                case 5 -> oneIf(sight.reached[object]);
                default -> scene.roomOf(object);
            };
        }
    }

    /** The search for a shortest play, state by state in the order in which they came. */
    private static final class Seeker {
        static final int SLOTS = 1024, SLOT_SHIFT = 22, SPREAD = 0x9E3779B1;
        final World world;
        final Scene scene;
        final Sight sight;
        final Acts acts;
        final int[] kept = new int[MOST_STATES * MOST_OBJECTS];
        final int[] marks = new int[MOST_STATES];
        /** The states by their marks: most new cells are then told apart by one look. */
        final int[] slots = new int[SLOTS];
        final int[] parents = new int[MOST_STATES];
        final int[] deeds = new int[MOST_STATES];
        final int[] play = new int[MOST_STATES];
        int playLength;
        int states;
        int found;
        int goalThing;
        int goalHolder;

        Seeker(World world, Book book, Roads roads, Bulks bulks) {
            this.world = world;
            scene = new Scene(world);
            sight = new Sight(world, roads, scene);
            acts = new Acts(world, book, roads, bulks, sight);
            playLength = NONE;
        }

        void startFrom(Scene present, int player) {
            System.arraycopy(present.cells, 0, scene.cells, 0, MOST_OBJECTS);
            acts.player = player;
        }

        int search(int thing, int holder, int most) {
            goalThing = thing;
            goalHolder = holder;
            found = NONE;
            states = 0;
            Arrays.fill(slots, NONE);
            int mark = markOfScene();
            keep(mark, slotFor(mark), NONE, 0);
            for (int s = 0; s < most && s < states && !isEnded(); s++) {
                tryFrom(s);
            }
            tellPlay();
            return playLength;
        }

        private boolean isEnded() {
            return found != NONE || states >= MOST_STATES;
        }

        private void tryFrom(int s) {
            System.arraycopy(kept, s * MOST_OBJECTS, scene.cells, 0, MOST_OBJECTS);
            sight.look(acts.player);
            for (int verb = GO; verb <= LEAVE; verb++) {
                int bound = verb == GO ? DIRECTIONS : Acts.hasX(verb) ? world.objects : 1;
                for (int x = 0; x < bound && !isEnded(); x++) {
                    if (acts.reasonOfX(verb, x) == DONE) {
                        tryWith(s, verb, x);
                    }
                }
            }
        }

        private void tryWith(int s, int verb, int x) {
            int bound = Acts.hasY(verb) ? world.objects : 1;
            for (int y = 0; y < bound && !isEnded(); y++) {
                if (acts.reasonOfY(verb, x, y) == DONE) {
                    step(s, verb, x, y);
                }
            }
        }

        private void step(int s, int verb, int x, int y) {
            int subject = acts.subjectOf(verb, x);
            int former = scene.cells[subject];
            int next = acts.outcomeOf(verb, x, y);
            int mark = marks[s] + (next - former) * weightOf(subject);
            scene.cells[subject] = next;
            int slot = slotFor(mark);
            if (slots[slot] == NONE) {
                keep(mark, slot, s, deedOf(verb, x, y));
            }
            scene.cells[subject] = former;
        }

        private void keep(int mark, int slot, int parent, int deed) {
            System.arraycopy(scene.cells, 0, kept, states * MOST_OBJECTS, MOST_OBJECTS);
            marks[states] = mark;
            parents[states] = parent;
            deeds[states] = deed;
            slots[slot] = states;
            if (scene.holderOf(goalThing) == goalHolder) {
                found = states;
            }
            states++;
        }

        private static int weightOf(int object) {
            return (2 * object + 1) * SPREAD;
        }

        private int markOfScene() {
            int mark = 0;
            for (int o = 0; o < MOST_OBJECTS; o++) {
                mark += scene.cells[o] * weightOf(o);
            }
            return mark;
        }

        /** The slot of the state that the scene is, or the free one where it would be kept. */
        private int slotFor(int mark) {
            int slot = mark * SPREAD >>> SLOT_SHIFT;
            for (int tries = 0; tries < SLOTS && slots[slot] != NONE; tries++) {
                if (marks[slots[slot]] == mark && isScene(slots[slot])) {
                    return slot;
                }
                slot = slot + 1 & SLOTS - 1;
            }
            return slot;
        }

        private boolean isScene(int state) {
            for (int o = 0; o < world.objects; o++) {
                if (kept[state * MOST_OBJECTS + o] != scene.cells[o]) {
                    return false;
                }
            }
            return true;
        }

        private void tellPlay() {
            if (found == NONE) {
                playLength = NONE;
                return;
            }
            playLength = 0;
            for (int s = found; s > 0 && playLength < MOST_STATES; s = parents[s]) {
                playLength++;
            }
            int s = found;
            for (int i = playLength - 1; i >= 0 && s > 0; i--) {
                play[i] = deeds[s];
                s = parents[s];
            }
        }
    }

    /** The lines of the objects, all items held as they are told. */
    private static final class Lines {
        static final int NO_NUMBER = 2143289344, INFINITE = 2139095040, NO_SIGN = 2147483647;
        final int[] sorts = new int[MOST_OBJECTS];
        final int[] lengths = new int[MOST_OBJECTS];
        final long[] items = new long[MOST_OBJECTS * MOST_ITEMS];

        Lines() {
            Arrays.fill(sorts, NONE);
        }

        void lay(int object, int sort, int n) {
            sorts[object] = sort;
            lengths[object] = n;
            for (int i = 0; i < MOST_ITEMS; i++) {
                items[object * MOST_ITEMS + i] = 0;
            }
        }

        boolean isOther(int object, int sort) {
            return sorts[object] != NONE && sorts[object] != sort;
        }

        boolean hasRun(int object, int from, int n) {
            return from >= 0 && n >= 0 && from <= lengths[object] && n <= lengths[object] - from;
        }

        long cutTo(int sort, long v) {
            return switch (sort) {
                case BYTES -> (byte) v;
                case INTS -> (int) v;
                case FLOATS -> floatBits((int) v);
                default -> v;
            };
        }

        private static int floatBits(int bits) {
            return (bits & NO_SIGN) > INFINITE ? NO_NUMBER : bits;
        }
    }

    /** The casts and whose their roles are. */
    private static final class Casts {
        final int[] sorts = new int[MOST_CASTS];
        final int[] lengths = new int[MOST_CASTS];
        final int[] roles = new int[MOST_CASTS * MOST_ROLES];
        int made;

        Casts() {
            Arrays.fill(roles, NONE);
        }

        int open(int sort, int n) {
            sorts[made] = sort;
            lengths[made] = n;
            return made++;
        }
    }
}
