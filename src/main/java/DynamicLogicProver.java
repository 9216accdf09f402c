import java.util.Arrays;

/** A workbench for propositional dynamic logic over small finite models. */
public final class DynamicLogicProver {
    public static final int INVALID_INDEX = -1;
    public static final int OUT_OF_RANGE = -2;
    public static final int WRONG_STATE = -3;
    public static final int LIMIT_REACHED = -4;
    public static final int NO_RESULT = -5;
    public static final int NULL_BUFFER = -11;
    public static final int WRONG_TYPE = -12;
    public static final int OUT_OF_BOUNDS = -13;
    public static final int NEGATIVE_LENGTH = -14;
    public static final long NO_VALUE = Long.MIN_VALUE;

    private static final int NONE = -1;
    private static final int MAX_WORLDS = 6;
    private static final int LETTERS = 4;
    private static final int PROGRAMS = 3;
    private static final int SPACE_BITS = 10;
    private static final int MAX_FORMULAS = 12;
    private static final int MAX_SIZE = 80;
    private static final int MAX_HEIGHT = 3;
    private static final int MAX_STEPS = 8;
    private static final int MAX_ROUNDS = 3;
    private static final int MAX_BASE = 8;
    private static final int TEXT_CAPACITY = 100;
    private static final int FAULT = -10;
    private static final int COMPARED = 1000;
    /** A closure has no more members than its formula has parts, and that is 161 for an entailment. */
    private static final int MAX_MEMBERS = 200;
    /** Room for the parts of twelve formulas, and for an entailment with its closure. */
    private static final int NODES = 1024;
    /** The formula that stands for the end of a run. */
    private static final char END = '.';

    private final Model model = new Model();
    private final Model savedModel = new Model();
    private final Model scratch = new Model();
    private final Shelf formulas = new Shelf();
    private final Shelf savedFormulas = new Shelf();
    private final Buffers buffers = new Buffers();
    private final Pool pool = new Pool();
    private final int[] text = new int[TEXT_CAPACITY];
    private final Parser parser = new Parser(pool, text);
    private final Rewriter rewriter = new Rewriter(pool);
    private final Truth truth = new Truth(pool);
    private final Closure closure = new Closure(pool);
    private final Partition partition = new Partition();
    private final Runs runs = new Runs(pool, closure, truth, model);
    private final Decision decision = new Decision(closure);
    private int textUsed;
    private boolean saved;

    public DynamicLogicProver() {
        textUsed = 0;
        saved = false;
    }

    // ---- the model

    public int setWorlds(int n) {
        if (n < 1 || n > MAX_WORLDS) {
            return OUT_OF_RANGE;
        }
        int previous = model.size();
        model.reset(n);
        return previous;
    }

    public int setLetter(int world, int letter, boolean value) {
        if (!model.has(world) || letter < 0 || letter >= LETTERS) {
            return INVALID_INDEX;
        }
        int before = (model.truths(letter) >> world) & 1;
        model.putTruth(letter, world, value);
        return before;
    }

    public int setTransition(int program, int from, int to, boolean present) {
        if (!isProgram(program) || !model.has(from) || !model.has(to)) {
            return INVALID_INDEX;
        }
        int before = (model.moves(program, from) >> to) & 1;
        model.putMove(program, from, to, present);
        return before;
    }

    public int letters(int world) {
        return model.has(world) ? model.lettersAt(world) : INVALID_INDEX;
    }

    public int successors(int program, int world) {
        return isProgram(program) && model.has(world) ? model.moves(program, world) : INVALID_INDEX;
    }

    public int loadModel(int worlds, int letters, int programs, int code) {
        int bits = spaceBits(worlds, letters, programs);
        if (bits == NONE || code < 0 || code >= 1 << bits) {
            return OUT_OF_RANGE;
        }
        model.decode(worlds, letters, programs, code);
        return worlds;
    }

    public int bisimulationClasses() {
        partition.bisimulate(model);
        return partition.size();
    }

    public int bisimulationClass(int world) {
        if (!model.has(world)) {
            return INVALID_INDEX;
        }
        partition.bisimulate(model);
        return partition.classOf(world);
    }

    // ---- formulas

    public int appendChar(int c) {
        if (c < 0 || c > 127) {
            return OUT_OF_RANGE;
        }
        if (textUsed >= TEXT_CAPACITY) {
            return LIMIT_REACHED;
        }
        put(text, textUsed, c);
        textUsed++;
        return textUsed;
    }

    public int parseFormula() {
        if (formulas.isFull()) {
            return LIMIT_REACHED;
        }
        pool.clear();
        int node = parser.parse(textUsed);
        textUsed = 0;
        if (parser.fault() != NONE) {
            return FAULT - parser.fault();
        }
        return pool.height(node) > MAX_HEIGHT ? NO_RESULT : keep(node);
    }

    public int dropFormula() {
        return formulas.isEmpty() ? NO_RESULT : formulas.drop();
    }

    public int formulaSize(int f) {
        return formulas.has(f) ? formulas.sizeOf(f) : INVALID_INDEX;
    }

    public int starHeight(int f) {
        return formulas.has(f) ? pool.height(only(f)) : INVALID_INDEX;
    }

    public int textLength(int f) {
        return formulas.has(f) ? pool.length(only(f)) : INVALID_INDEX;
    }

    public int textChar(int f, int index) {
        if (!formulas.has(f)) {
            return INVALID_INDEX;
        }
        int node = only(f);
        return index < 0 || index >= pool.length(node) ? NO_RESULT : pool.charOf(node, index);
    }

    public int compareFormulas(int f, int g) {
        if (!formulas.has(f) || !formulas.has(g)) {
            return INVALID_INDEX;
        }
        int first = only(f);
        return 1 + pool.order(first, formulas.fetch(g, pool));
    }

    // ---- truth

    public int holds(int f, int world) {
        if (!formulas.has(f) || !model.has(world)) {
            return INVALID_INDEX;
        }
        return (worldsOf(f) >> world) & 1;
    }

    public int extension(int f) {
        return formulas.has(f) ? worldsOf(f) : INVALID_INDEX;
    }

    public int distinguish(int world, int other) {
        if (!model.has(world) || !model.has(other)) {
            return INVALID_INDEX;
        }
        int best = NO_RESULT;
        for (int f = 0; f < formulas.size(); f++) {
            int worlds = worldsOf(f);
            boolean differs = ((worlds >> world) & 1) != ((worlds >> other) & 1);
            if (differs && (best == NO_RESULT || compareFormulas(f, best) == 0)) {
                best = f;
            }
        }
        return best;
    }

    // ---- runs

    public int reach(int f, int world) {
        if (!formulas.has(f) || !model.has(world)) {
            return INVALID_INDEX;
        }
        int node = only(f);
        if (pool.kind(node) != '[') {
            return WRONG_STATE;
        }
        truth.evaluate(model);
        return truth.row(pool.left(node), world);
    }

    public int runSteps(int f, int from, int to) {
        if (!formulas.has(f) || !model.has(from) || !model.has(to)) {
            return INVALID_INDEX;
        }
        if (!prepareRuns(f)) {
            return WRONG_STATE;
        }
        runs.measure(to);
        int steps = runs.shortest(from);
        return steps == NONE ? NO_RESULT : steps;
    }

    public int runStep(int f, int from, int to, int index, int part) {
        if (!formulas.has(f) || !model.has(from) || !model.has(to) || part < 0 || part > 1) {
            return INVALID_INDEX;
        }
        if (!prepareRuns(f)) {
            return WRONG_STATE;
        }
        runs.measure(to);
        int steps = runs.shortest(from);
        if (steps == NONE || index < 0 || index >= steps) {
            return NO_RESULT;
        }
        return runs.bestStep(from, index, part);
    }

    public long runCount(int f, int from, int to, int steps) {
        if (!formulas.has(f) || !model.has(from) || !model.has(to)) {
            return NO_VALUE;
        }
        if (steps < 0 || steps > MAX_STEPS || !prepareRuns(f)) {
            return NO_VALUE;
        }
        return runs.sequences(from, to, steps);
    }

    public int iterations(int f, int from, int to) {
        if (!formulas.has(f) || !model.has(from) || !model.has(to)) {
            return INVALID_INDEX;
        }
        int node = only(f);
        if (pool.kind(node) != '[' || pool.kind(pool.left(node)) != '*') {
            return WRONG_STATE;
        }
        truth.evaluate(model);
        int rounds = truth.rounds(pool.left(pool.left(node)), from, to);
        return rounds == NONE ? NO_RESULT : rounds;
    }

    public int cycles(int f) {
        if (!formulas.has(f)) {
            return INVALID_INDEX;
        }
        if (!prepareRuns(f)) {
            return WRONG_STATE;
        }
        int worlds = 0;
        for (int world = 0; world < model.size(); world++) {
            runs.measure(world);
            if (runs.returns(world)) {
                worlds |= 1 << world;
            }
        }
        return worlds;
    }

    // ---- closures

    public int closureSize(int f) {
        if (!formulas.has(f)) {
            return INVALID_INDEX;
        }
        closure.grow(only(f), true);
        return closure.size();
    }

    public int baseMembers(int f) {
        if (!formulas.has(f)) {
            return INVALID_INDEX;
        }
        closure.grow(only(f), true);
        return closure.bases();
    }

    public int closureIndex(int f, int g) {
        if (!formulas.has(f) || !formulas.has(g)) {
            return INVALID_INDEX;
        }
        closure.grow(only(f), true);
        closure.sort();
        int place = closure.placeOf(formulas.fetch(g, pool));
        return place == NONE ? NO_RESULT : place;
    }

    public int storeMember(int f, int member) {
        if (!formulas.has(f)) {
            return INVALID_INDEX;
        }
        closure.grow(only(f), true);
        if (member < 0 || member >= closure.size()) {
            return NO_RESULT;
        }
        closure.sort();
        return keep(closure.member(member));
    }

    public int trueMembers(int f, int world) {
        if (!formulas.has(f) || !model.has(world)) {
            return INVALID_INDEX;
        }
        closure.grow(only(f), true);
        truth.evaluate(model);
        int total = 0;
        for (int i = 0; i < closure.size(); i++) {
            total += (truth.mask(closure.member(i)) >> world) & 1;
        }
        return total;
    }

    // ---- filtration

    public int filterClasses(int f) {
        if (!formulas.has(f)) {
            return INVALID_INDEX;
        }
        filter(f);
        return partition.size();
    }

    public int filterClass(int f, int world) {
        if (!formulas.has(f) || !model.has(world)) {
            return INVALID_INDEX;
        }
        filter(f);
        return partition.classOf(world);
    }

    public int filterSuccessors(int f, int program, int index) {
        if (!formulas.has(f) || !isProgram(program)) {
            return INVALID_INDEX;
        }
        filter(f);
        return scratch.has(index) ? scratch.moves(program, index) : INVALID_INDEX;
    }

    public int filterHolds(int f, int g, int index) {
        if (!formulas.has(f) || !formulas.has(g)) {
            return INVALID_INDEX;
        }
        filter(f);
        if (!scratch.has(index)) {
            return INVALID_INDEX;
        }
        int node = only(g);
        truth.evaluate(scratch);
        return (truth.mask(node) >> index) & 1;
    }

    public int applyFilter(int f) {
        if (!formulas.has(f)) {
            return INVALID_INDEX;
        }
        filter(f);
        model.take(scratch);
        return model.size();
    }

    // ---- unfolding

    public int unfold(int f) {
        return formulas.has(f) ? keep(rewriter.unfolded(only(f))) : INVALID_INDEX;
    }

    public int unroll(int f, int n) {
        if (!formulas.has(f)) {
            return INVALID_INDEX;
        }
        if (n < 0 || n > MAX_ROUNDS) {
            return OUT_OF_RANGE;
        }
        return keep(rewriter.unrolled(only(f), n));
    }

    // ---- search and decision

    public int counterModels(int f, int worlds, int letters, int programs) {
        if (!formulas.has(f)) {
            return INVALID_INDEX;
        }
        int bits = spaceBits(worlds, letters, programs);
        if (bits == NONE) {
            return OUT_OF_RANGE;
        }
        int node = only(f);
        int total = 0;
        for (int code = 0; code < 1 << bits; code++) {
            scratch.decode(worlds, letters, programs, code);
            truth.evaluate(scratch);
            total += 1 - (truth.mask(node) & 1);
        }
        return total;
    }

    public int firstCounterModel(int f, int worlds, int letters, int programs) {
        if (!formulas.has(f)) {
            return INVALID_INDEX;
        }
        int bits = spaceBits(worlds, letters, programs);
        if (bits == NONE) {
            return OUT_OF_RANGE;
        }
        int node = only(f);
        for (int code = 0; code < 1 << bits; code++) {
            scratch.decode(worlds, letters, programs, code);
            truth.evaluate(scratch);
            if ((truth.mask(node) & 1) == 0) {
                return code;
            }
        }
        return NO_RESULT;
    }

    public int isValid(int f) {
        if (!formulas.has(f)) {
            return INVALID_INDEX;
        }
        int node = only(f);
        return decide(node) ? bit(decision.everywhere(node)) : LIMIT_REACHED;
    }

    public int isSatisfiable(int f) {
        if (!formulas.has(f)) {
            return INVALID_INDEX;
        }
        int node = only(f);
        return decide(node) ? bit(decision.somewhere(node)) : LIMIT_REACHED;
    }

    public int entails(int f, int g) {
        if (!formulas.has(f) || !formulas.has(g)) {
            return INVALID_INDEX;
        }
        int first = only(f);
        int node = pool.pair('-', first, formulas.fetch(g, pool));
        return decide(node) ? bit(decision.everywhere(node)) : LIMIT_REACHED;
    }

    // ---- comparison, snapshot, counts, buffers

    public int compare(int buffer, int from) {
        if (!buffers.has(buffer)) {
            return INVALID_INDEX;
        }
        if (!buffers.isNull(buffer) && !buffers.isShort(buffer)) {
            return WRONG_TYPE;
        }
        for (int f = 0; f < formulas.size(); f++) {
            long index = (long) from + f;
            if (buffers.isNull(buffer) || !buffers.inside(buffer, index)) {
                return COMPARED + f;
            }
            if (buffers.cell(buffer, (int) index) != worldsOf(f)) {
                return f;
            }
        }
        return NO_RESULT;
    }

    public int save() {
        savedModel.take(model);
        savedFormulas.take(formulas);
        saved = true;
        return formulas.size();
    }

    public int restore() {
        if (!saved) {
            return WRONG_STATE;
        }
        model.take(savedModel);
        formulas.take(savedFormulas);
        return formulas.size();
    }

    public int count(int what) {
        switch (what) {
            case 0:
                return model.size();
            case 1:
                return model.transitions();
            case 2:
                return formulas.size();
            case 3:
                return textUsed;
            default:
                return INVALID_INDEX;
        }
    }

    public int allocate(int buffer, int type, int length) {
        if (!buffers.has(buffer)) {
            return INVALID_INDEX;
        }
        if (type == NONE) {
            buffers.discard(buffer);
            return 1;
        }
        if (!buffers.isType(type) || length > Buffers.CELLS) {
            return OUT_OF_RANGE;
        }
        if (length < 0) {
            return NEGATIVE_LENGTH;
        }
        buffers.renew(buffer, type, length);
        return 1;
    }

    public int store(int buffer, int index, long value) {
        if (!buffers.has(buffer)) {
            return INVALID_INDEX;
        }
        if (buffers.isNull(buffer)) {
            return NULL_BUFFER;
        }
        if (!buffers.inside(buffer, index)) {
            return OUT_OF_BOUNDS;
        }
        buffers.putCell(buffer, index, value);
        return 1;
    }

    public long load(int buffer, int index) {
        if (!buffers.has(buffer) || buffers.isNull(buffer) || !buffers.inside(buffer, index)) {
            return NO_VALUE;
        }
        return buffers.cell(buffer, index);
    }

    public int copy(int from, int fromIndex, int to, int toIndex, int count) {
        if (!buffers.has(from) || !buffers.has(to)) {
            return INVALID_INDEX;
        }
        if (buffers.isNull(from) || buffers.isNull(to)) {
            return NULL_BUFFER;
        }
        if (!buffers.sameType(from, to)) {
            return WRONG_TYPE;
        }
        if (!buffers.spans(from, fromIndex, count) || !buffers.spans(to, toIndex, count)) {
            return OUT_OF_BOUNDS;
        }
        buffers.move(from, fromIndex, to, toIndex, count);
        return count;
    }

    // ---- what several calls share

    /** The root of a formula in a pool that holds this formula alone. */
    private int only(int f) {
        pool.clear();
        return formulas.fetch(f, pool);
    }

    private int keep(int node) {
        if (node == NONE || pool.size(node) > MAX_SIZE) {
            return NO_RESULT;
        }
        return formulas.isFull() ? LIMIT_REACHED : formulas.add(node, pool);
    }

    private int worldsOf(int f) {
        int node = only(f);
        truth.evaluate(model);
        return truth.mask(node);
    }

    /** Answers false if the formula is no box. */
    private boolean prepareRuns(int f) {
        int node = only(f);
        if (pool.kind(node) != '[') {
            return false;
        }
        runs.prepare(pool.left(node));
        return true;
    }

    /** Leaves the classes in the partition and the filtered model in scratch. */
    private void filter(int f) {
        closure.grow(only(f), true);
        truth.evaluate(model);
        partition.begin(model.size());
        int members = 0;
        for (int i = 0; i < closure.size(); i++) {
            int node = closure.member(i);
            partition.split(truth.mask(node));
            members |= pool.letterBit(node);
        }
        partition.quotient(model, members, scratch);
    }

    private boolean decide(int node) {
        closure.grow(node, true);
        if (closure.bases() > MAX_BASE) {
            return false;
        }
        closure.sort();
        decision.settle();
        return true;
    }

    private static int spaceBits(int worlds, int letters, int programs) {
        if (worlds < 1 || worlds > MAX_WORLDS || letters < 0 || letters > LETTERS) {
            return NONE;
        }
        if (programs < 0 || programs > PROGRAMS) {
            return NONE;
        }
        int bits = worlds * letters + worlds * worlds * programs;
        return bits > SPACE_BITS ? NONE : bits;
    }

    private static boolean isProgram(int program) {
        return program >= 0 && program < PROGRAMS;
    }

    /** Whether formulas of a form (see Closure) are letters or boxes with an atomic program. */
    private static boolean isBaseForm(int form) {
        return form >= 'a' && form <= 'c' || form >= 'p' && form <= 's';
    }

    private static int bit(boolean value) {
        return value ? 1 : 0;
    }

    // The rows are read and written through these four, so that no index can leave its row.

    private static int at(int[] row, int index) {
        return row != null && index >= 0 && index < row.length ? row[index] : 0;
    }

    private static void put(int[] row, int index, int value) {
        if (row != null && index >= 0 && index < row.length) {
            row[index] = value;
        }
    }

    private static long wideAt(long[] row, int index) {
        return row != null && index >= 0 && index < row.length ? row[index] : 0L;
    }

    private static void putWide(long[] row, int index, long value) {
        if (row != null && index >= 0 && index < row.length) {
            row[index] = value;
        }
    }

    /** Formulas and programs as shared nodes: equal parts are one node, and parts come before the whole. */
    private static final class Pool {
        private static final int BUCKETS = 256;
        private static final int ROOM = 2048;
        private final int[] kinds = new int[NODES];
        private final int[] lefts = new int[NODES];
        private final int[] rights = new int[NODES];
        private final int[] sizes = new int[NODES];
        private final int[] heights = new int[NODES];
        private final int[] lengths = new int[NODES];
        private final int[] chains = new int[NODES];
        private final int[] heads = new int[BUCKETS];
        private final int[] pending = new int[ROOM];
        private final int[] here = new int[ROOM];
        private final int[] there = new int[ROOM];
        private int used;

        Pool() {
            Arrays.fill(heads, NONE);
            used = 0;
        }

        void clear() {
            Arrays.fill(heads, NONE);
            used = 0;
        }

        int nodes() {
            return used;
        }

        int kind(int node) {
            return at(kinds, node);
        }

        int left(int node) {
            return at(lefts, node);
        }

        int right(int node) {
            return at(rights, node);
        }

        int size(int node) {
            return at(sizes, node);
        }

        int height(int node) {
            return at(heights, node);
        }

        int length(int node) {
            return at(lengths, node);
        }

        boolean isLetter(int node) {
            return kind(node) >= 'p' && kind(node) <= 's';
        }

        boolean isAtomic(int node) {
            return kind(node) >= 'a' && kind(node) <= 'c';
        }

        boolean isAtomicBox(int node) {
            return kind(node) == '[' && isAtomic(left(node));
        }

        boolean isComplexBox(int node) {
            return kind(node) == '[' && !isAtomic(left(node));
        }

        /** The letter as a bit, 0 for any other node. */
        int letterBit(int node) {
            return isLetter(node) ? 1 << (kind(node) - 'p') : 0;
        }

        int leaf(int kind) {
            return find(kind, NONE, NONE);
        }

        int single(int kind, int part) {
            return part == NONE ? NONE : find(kind, part, NONE);
        }

        int pair(int kind, int left, int right) {
            return left == NONE || right == NONE ? NONE : find(kind, left, right);
        }

        int negate(int node) {
            return pair('-', node, leaf('0'));
        }

        int truth() {
            return pair('-', leaf('0'), leaf('0'));
        }

        int both(int left, int right) {
            int refused = pair('-', right, leaf('0'));
            return pair('-', pair('-', left, refused), leaf('0'));
        }

        int either(int left, int right) {
            return pair('-', pair('-', left, leaf('0')), right);
        }

        /** The node with these parts, a new one if there is none yet; NONE if the pool is full. */
        private int find(int kind, int left, int right) {
            int bucket = (kind * 31 + left * 7 + right * 13) & (BUCKETS - 1);
            int node = at(heads, bucket);
            for (int i = 0; i < NODES && node != NONE; i++) {
                if (at(kinds, node) == kind && at(lefts, node) == left && at(rights, node) == right) {
                    return node;
                }
                node = at(chains, node);
            }
            if (used >= NODES) {
                return NONE;
            }
            node = used;
            used++;
            put(kinds, node, kind);
            put(lefts, node, left);
            put(rights, node, right);
            put(chains, node, at(heads, bucket));
            put(heads, bucket, node);
            // a missing part is NONE, and at() answers 0 for it
            put(sizes, node, 1 + at(sizes, left) + at(sizes, right));
            int inner = Math.max(at(heights, left), at(heights, right));
            put(heights, node, kind == '*' ? inner + 1 : inner);
            put(lengths, node, signs(kind) + at(lengths, left) + at(lengths, right));
            return node;
        }

        /** How many characters a kind adds to the texts of its parts. */
        private static int signs(int kind) {
            if (kind == '[') {
                return 2;
            }
            return kind == '-' || kind == ';' || kind == '+' ? 3 : 1;
        }

        int charOf(int node, int index) {
            write(node, here);
            return at(here, index);
        }

        /** -1, 0 or 1 as x comes before y, is y, or comes after y. */
        int order(int x, int y) {
            if (x == y) {
                return 0;
            }
            if (size(x) != size(y)) {
                return size(x) < size(y) ? -1 : 1;
            }
            int first = write(x, here);
            int second = write(y, there);
            for (int i = 0; i < first && i < second; i++) {
                if (at(here, i) != at(there, i)) {
                    return at(here, i) < at(there, i) ? -1 : 1;
                }
            }
            return Integer.compare(first, second);
        }

        /** Writes the canonical text and answers its length. */
        private int write(int root, int[] row) {
            put(pending, 0, root);
            int waiting = 1;
            int written = 0;
            for (int i = 0; i < 4 * ROOM && waiting > 0; i++) {
                waiting--;
                int item = at(pending, waiting);
                if (item < 0) {
                    // a sign waits as its negative, so that it is no node
                    put(row, written, -item);
                    written++;
                } else {
                    waiting = postpone(item, waiting);
                }
            }
            return written;
        }

        /** Puts the parts of a node's text on the waiting row, the last part first. */
        private int postpone(int node, int waiting) {
            int kind = kind(node);
            switch (kind) {
                case '-':
                case ';':
                case '+':
                    put(pending, waiting, -')');
                    put(pending, waiting + 1, right(node));
                    put(pending, waiting + 2, -kind);
                    put(pending, waiting + 3, left(node));
                    put(pending, waiting + 4, -'(');
                    return waiting + 5;
                case '[':
                    put(pending, waiting, right(node));
                    put(pending, waiting + 1, -']');
                    put(pending, waiting + 2, left(node));
                    put(pending, waiting + 3, -'[');
                    return waiting + 4;
                case '*':
                    put(pending, waiting, -'*');
                    put(pending, waiting + 1, left(node));
                    return waiting + 2;
                case '?':
                    put(pending, waiting, left(node));
                    put(pending, waiting + 1, -'?');
                    return waiting + 2;
                default:
                    put(pending, waiting, -kind);
                    return waiting + 1;
            }
        }
    }

    /** Reads formula texts by recursive descent; the limit on open parts keeps the recursion low. */
    private static final class Parser {
        private static final int MAX_OPEN = 12;
        private final Pool pool;
        private final int[] source;
        private final int[] operands = new int[TEXT_CAPACITY + 1];
        private int end;
        private int place;
        private int open;
        private int waiting;
        private int fault;

        Parser(Pool pool, int[] source) {
            this.pool = pool;
            this.source = source;
            this.fault = NONE;
        }

        int fault() {
            return fault;
        }

        /** Reads so many characters of the source; answers the formula, or NONE with the fault set. */
        int parse(int length) {
            end = length;
            place = 0;
            open = 0;
            waiting = 0;
            fault = NONE;
            int node = formula();
            if (fault == NONE && place < end) {
                fault = place;
            }
            return fault == NONE ? node : NONE;
        }

        /** The next character, or NONE at the end and after a fault. */
        private int peek() {
            return fault != NONE || place >= end ? NONE : at(source, place);
        }

        private boolean skip(int sign) {
            if (peek() != sign) {
                return false;
            }
            place++;
            return true;
        }

        private int fail() {
            if (fault == NONE) {
                fault = place;
            }
            return NONE;
        }

        /** Implications group from the right, so the operands wait until the last one is known. */
        private int formula() {
            int bottom = waiting;
            await(disjunction());
            for (int i = 0; i < TEXT_CAPACITY && skip('-'); i++) {
                await(disjunction());
            }
            waiting--;
            int whole = at(operands, waiting);
            for (int i = 0; i < TEXT_CAPACITY && waiting > bottom; i++) {
                waiting--;
                whole = pool.pair('-', at(operands, waiting), whole);
            }
            return whole;
        }

        private void await(int operand) {
            put(operands, waiting, operand);
            waiting++;
        }

        private int disjunction() {
            int whole = conjunction();
            for (int i = 0; i < TEXT_CAPACITY && skip('|'); i++) {
                whole = pool.either(whole, conjunction());
            }
            return whole;
        }

        private int conjunction() {
            int whole = unary();
            for (int i = 0; i < TEXT_CAPACITY && skip('&'); i++) {
                whole = pool.both(whole, unary());
            }
            return whole;
        }

        private int unary() {
            int sign = peek();
            if (sign == '0' || sign >= 'p' && sign <= 's') {
                place++;
                return pool.leaf(sign);
            }
            if (sign == '1') {
                place++;
                return pool.truth();
            }
            boolean opens = sign == '!' || sign == '[' || sign == '<' || sign == '(';
            if (!opens || open >= MAX_OPEN) {
                return fail();
            }
            place++;
            open++;
            int node = openFormula(sign);
            open--;
            return node;
        }

        private int openFormula(int sign) {
            if (sign == '!') {
                return pool.negate(unary());
            }
            if (sign == '(') {
                return closed(formula(), ')');
            }
            int program = closed(choice(), sign == '[' ? ']' : '>');
            int body = unary();
            if (sign == '[') {
                return pool.pair('[', program, body);
            }
            return pool.negate(pool.pair('[', program, pool.negate(body)));
        }

        private int closed(int node, int sign) {
            return skip(sign) ? node : fail();
        }

        private int choice() {
            int whole = sequence();
            for (int i = 0; i < TEXT_CAPACITY && skip('+'); i++) {
                whole = pool.pair('+', whole, sequence());
            }
            return whole;
        }

        private int sequence() {
            int whole = iteration();
            for (int i = 0; i < TEXT_CAPACITY && skip(';'); i++) {
                whole = pool.pair(';', whole, iteration());
            }
            return whole;
        }

        private int iteration() {
            int whole = program();
            for (int i = 0; i < TEXT_CAPACITY && skip('*'); i++) {
                whole = pool.single('*', whole);
            }
            return whole;
        }

        private int program() {
            int sign = peek();
            if (sign >= 'a' && sign <= 'c') {
                place++;
                return pool.leaf(sign);
            }
            boolean opens = sign == '?' || sign == '(';
            if (!opens || open >= MAX_OPEN) {
                return fail();
            }
            place++;
            open++;
            int node = sign == '?' ? pool.single('?', unary()) : closed(choice(), ')');
            open--;
            return node;
        }
    }

    /** The unfolding step and the bounded iterations. */
    private static final class Rewriter {
        private final Pool pool;
        private final int[] marks = new int[NODES];
        private final int[] path = new int[NODES];

        Rewriter(Pool pool) {
            this.pool = pool;
        }

        /** The formula after one unfolding step, NONE if no box has a program that is not atomic. */
        int unfolded(int root) {
            markComplex(root);
            if (at(marks, root) == 0) {
                return NONE;
            }
            int node = root;
            int depth = 0;
            for (int i = 0; i < NODES && !pool.isComplexBox(node); i++) {
                put(path, depth, node);
                depth++;
                node = goesLeft(node) ? pool.left(node) : pool.right(node);
            }
            int fresh = opened(node);
            for (int i = depth - 1; i >= 0; i--) {
                int whole = at(path, i);
                if (goesLeft(whole)) {
                    fresh = pool.pair('-', fresh, pool.right(whole));
                } else {
                    fresh = pool.pair(pool.kind(whole), pool.left(whole), fresh);
                }
            }
            return fresh;
        }

        /** Tests inside programs need no mark: the box around them comes first. */
        private void markComplex(int root) {
            for (int node = 0; node <= root && node < NODES; node++) {
                int mark = 0;
                if (pool.kind(node) == '-') {
                    mark = at(marks, pool.left(node)) | at(marks, pool.right(node));
                } else if (pool.isComplexBox(node)) {
                    mark = 1;
                } else if (pool.kind(node) == '[') {
                    mark = at(marks, pool.right(node));
                }
                put(marks, node, mark);
            }
        }

        private boolean goesLeft(int node) {
            return pool.kind(node) == '-' && at(marks, pool.left(node)) == 1;
        }

        private int opened(int box) {
            int program = pool.left(box);
            int body = pool.right(box);
            int first = pool.left(program);
            int second = pool.right(program);
            switch (pool.kind(program)) {
                case ';':
                    return pool.pair('[', first, pool.pair('[', second, body));
                case '+':
                    return pool.both(pool.pair('[', first, body), pool.pair('[', second, body));
                case '*':
                    return pool.both(body, pool.pair('[', first, box));
                default:
                    return pool.pair('-', first, body);
            }
        }

        int unrolled(int root, int rounds) {
            for (int node = 0; node <= root && node < NODES; node++) {
                put(marks, node, rebuilt(node, rounds));
            }
            return at(marks, root);
        }

        /** The node with its parts replaced; the marks hold what stands for every smaller node. */
        private int rebuilt(int node, int rounds) {
            int kind = pool.kind(node);
            switch (kind) {
                case '*':
                    return bounded(at(marks, pool.left(node)), rounds);
                case '?':
                    return pool.single(kind, at(marks, pool.left(node)));
                case '-':
                case '[':
                case ';':
                case '+':
                    return pool.pair(kind, at(marks, pool.left(node)), at(marks, pool.right(node)));
                default:
                    return node;
            }
        }

        private int bounded(int program, int rounds) {
            int stop = pool.single('?', pool.truth());
            int whole = stop;
            for (int i = 0; i < rounds; i++) {
                whole = pool.pair('+', stop, pool.pair(';', program, whole));
            }
            return whole;
        }
    }

    /** Worlds, the truth of letters and the transitions, all sets of worlds being bit masks. */
    private static final class Model {
        private final int[] truths = new int[LETTERS];
        private final int[] moves = new int[PROGRAMS * MAX_WORLDS];
        private int worlds;

        Model() {
            worlds = 1;
        }

        void reset(int size) {
            worlds = size;
            Arrays.fill(truths, 0);
            Arrays.fill(moves, 0);
        }

        void take(Model other) {
            worlds = other.worlds;
            System.arraycopy(other.truths, 0, truths, 0, LETTERS);
            System.arraycopy(other.moves, 0, moves, 0, PROGRAMS * MAX_WORLDS);
        }

        int size() {
            return worlds;
        }

        int all() {
            return (1 << worlds) - 1;
        }

        boolean has(int world) {
            return world >= 0 && world < worlds;
        }

        int truths(int letter) {
            return at(truths, letter);
        }

        int moves(int program, int from) {
            return at(moves, program * MAX_WORLDS + from);
        }

        void putTruth(int letter, int world, boolean value) {
            int others = at(truths, letter) & ~(1 << world);
            put(truths, letter, value ? others | 1 << world : others);
        }

        void putMove(int program, int from, int to, boolean present) {
            int place = program * MAX_WORLDS + from;
            int others = at(moves, place) & ~(1 << to);
            put(moves, place, present ? others | 1 << to : others);
        }

        int lettersAt(int world) {
            int letters = 0;
            for (int letter = 0; letter < LETTERS; letter++) {
                letters |= ((at(truths, letter) >> world) & 1) << letter;
            }
            return letters;
        }

        int transitions() {
            int total = 0;
            for (int i = 0; i < PROGRAMS * MAX_WORLDS; i++) {
                total += Integer.bitCount(at(moves, i));
            }
            return total;
        }

        /** Becomes the model of a model space that has the code; the space must exist. */
        void decode(int size, int letters, int programs, int code) {
            reset(size);
            int rest = code;
            for (int world = 0; world < size; world++) {
                for (int letter = 0; letter < letters; letter++) {
                    putTruth(letter, world, (rest & 1) == 1);
                    rest >>= 1;
                }
            }
            for (int program = 0; program < programs; program++) {
                for (int from = 0; from < size; from++) {
                    put(moves, program * MAX_WORLDS + from, rest & all());
                    rest >>= size;
                }
            }
        }
    }

    /** The truth of every formula of the pool and the relation of every program, in one model. */
    private static final class Truth {
        private final Pool pool;
        private final int[] masks = new int[NODES];
        private final int[] rows = new int[NODES * MAX_WORLDS];
        private int worlds;
        private int all;

        Truth(Pool pool) {
            this.pool = pool;
        }

        int mask(int formula) {
            return at(masks, formula);
        }

        /** The worlds to which a program has runs from a world. */
        int row(int program, int world) {
            return at(rows, program * MAX_WORLDS + world);
        }

        private void putRow(int program, int world, int mask) {
            put(rows, program * MAX_WORLDS + world, mask);
        }

        void evaluate(Model model) {
            worlds = model.size();
            all = model.all();
            for (int node = 0; node < pool.nodes(); node++) {
                visit(node, model);
            }
        }

        private void visit(int node, Model model) {
            int kind = pool.kind(node);
            switch (kind) {
                case 'p':
                case 'q':
                case 'r':
                case 's':
                    put(masks, node, model.truths(kind - 'p'));
                    break;
                case '-':
                    put(masks, node, all & ~mask(pool.left(node)) | mask(pool.right(node)));
                    break;
                case '[':
                    put(masks, node, boxMask(pool.left(node), mask(pool.right(node))));
                    break;
                case 'a':
                case 'b':
                case 'c':
                    for (int world = 0; world < worlds; world++) {
                        putRow(node, world, model.moves(kind - 'a', world));
                    }
                    break;
                case ';':
                    joinRows(node);
                    break;
                case '+':
                    uniteRows(node);
                    break;
                case '*':
                    repeatRows(node);
                    break;
                case '?':
                    for (int world = 0; world < worlds; world++) {
                        putRow(node, world, mask(pool.left(node)) & 1 << world);
                    }
                    break;
                default:
                    put(masks, node, 0);
                    break;
            }
        }

        private int boxMask(int program, int body) {
            int mask = 0;
            for (int world = 0; world < worlds; world++) {
                if ((row(program, world) & ~body) == 0) {
                    mask |= 1 << world;
                }
            }
            return mask;
        }

        /** The worlds that a program reaches from any world of a set. */
        private int image(int program, int from) {
            int reached = 0;
            for (int world = 0; world < worlds; world++) {
                if ((from >> world & 1) == 1) {
                    reached |= at(rows, program * MAX_WORLDS + world);
                }
            }
            return reached;
        }

        private void joinRows(int node) {
            for (int world = 0; world < worlds; world++) {
                putRow(node, world, image(pool.right(node), row(pool.left(node), world)));
            }
        }

        private void uniteRows(int node) {
            for (int world = 0; world < worlds; world++) {
                putRow(node, world, row(pool.left(node), world) | row(pool.right(node), world));
            }
        }

        private void repeatRows(int node) {
            for (int world = 0; world < worlds; world++) {
                putRow(node, world, row(pool.left(node), world) | 1 << world);
            }
            // Warshall: after a round, runs may pass through the world via
            for (int via = 0; via < worlds; via++) {
                for (int world = 0; world < worlds; world++) {
                    if ((row(node, world) >> via & 1) == 1) {
                        putRow(node, world, row(node, world) | row(node, via));
                    }
                }
            }
        }

        /** The smallest number of runs of a program, one after the other, between two worlds, or NONE. */
        int rounds(int program, int from, int to) {
            int reached = 1 << from;
            for (int round = 0; round < MAX_WORLDS; round++) {
                if ((reached >> to & 1) == 1) {
                    return round;
                }
                reached |= image(program, reached);
            }
            return NONE;
        }
    }

    /** The stored formulas, each as the kinds of its parts with every whole before its parts. */
    private static final class Shelf {
        private final int[] codes = new int[MAX_FORMULAS * MAX_SIZE];
        private final int[] sizes = new int[MAX_FORMULAS];
        private final int[] waiting = new int[MAX_SIZE + 2];
        private int used;

        Shelf() {
            used = 0;
        }

        int size() {
            return used;
        }

        boolean isEmpty() {
            return used == 0;
        }

        boolean isFull() {
            return used >= MAX_FORMULAS;
        }

        boolean has(int f) {
            return f >= 0 && f < used;
        }

        int sizeOf(int f) {
            return at(sizes, f);
        }

        void take(Shelf other) {
            used = other.used;
            System.arraycopy(other.codes, 0, codes, 0, MAX_FORMULAS * MAX_SIZE);
            System.arraycopy(other.sizes, 0, sizes, 0, MAX_FORMULAS);
        }

        int drop() {
            used--;
            return used;
        }

        /** Answers the number of the new formula, whose size must be at most MAX_SIZE. */
        int add(int root, Pool pool) {
            int f = used;
            used++;
            put(sizes, f, pool.size(root));
            put(waiting, 0, root);
            int open = 1;
            for (int i = 0; i < MAX_SIZE && open > 0; i++) {
                open--;
                int node = at(waiting, open);
                put(codes, f * MAX_SIZE + i, pool.kind(node));
                if (pool.right(node) != NONE) {
                    put(waiting, open, pool.right(node));
                    open++;
                }
                if (pool.left(node) != NONE) {
                    put(waiting, open, pool.left(node));
                    open++;
                }
            }
            return f;
        }

        /** Builds the formula in the pool; from the last part back, so that parts come before the whole. */
        int fetch(int f, Pool pool) {
            int open = 0;
            for (int i = sizeOf(f) - 1; i >= 0; i--) {
                int kind = at(codes, f * MAX_SIZE + i);
                int node;
                if (kind == '*' || kind == '?') {
                    open--;
                    node = pool.single(kind, at(waiting, open));
                } else if (kind == '-' || kind == '[' || kind == ';' || kind == '+') {
                    open -= 2;
                    node = pool.pair(kind, at(waiting, open + 1), at(waiting, open));
                } else {
                    node = pool.leaf(kind);
                }
                put(waiting, open, node);
                open++;
            }
            return at(waiting, 0);
        }
    }

    /** Classes of worlds, numbered in the order of their smallest worlds. */
    private static final class Partition {
        private final int[] classes = new int[MAX_WORLDS];
        private final int[] before = new int[MAX_WORLDS];
        private final int[] images = new int[MAX_WORLDS];
        private int worlds;
        private int number;

        Partition() {
            worlds = 1;
            number = 1;
        }

        int size() {
            return number;
        }

        int classOf(int world) {
            return at(classes, world);
        }

        /** All worlds in one class. */
        void begin(int size) {
            worlds = size;
            number = 1;
            Arrays.fill(classes, 0);
        }

        /** Divides every class into its worlds in the set and its worlds outside. */
        void split(int set) {
            System.arraycopy(classes, 0, before, 0, MAX_WORLDS);
            number = 0;
            for (int world = 0; world < worlds; world++) {
                int fresh = number;
                for (int earlier = 0; earlier < world; earlier++) {
                    boolean sameSide = (set >> world & 1) == (set >> earlier & 1);
                    if (sameSide && at(before, earlier) == at(before, world)) {
                        fresh = at(classes, earlier);
                        break;
                    }
                }
                put(classes, world, fresh);
                number = Math.max(number, fresh + 1);
            }
        }

        void bisimulate(Model model) {
            begin(model.size());
            for (int letter = 0; letter < LETTERS; letter++) {
                split(model.truths(letter));
            }
            int previous = 0;
            for (int round = 0; round < MAX_WORLDS && number != previous; round++) {
                previous = number;
                refine(model);
            }
        }

        /** Splits by the worlds that have a transition into a class, for every program and class. */
        private void refine(Model model) {
            int targets = number;
            Arrays.fill(images, 0);
            for (int world = 0; world < worlds; world++) {
                put(images, classOf(world), at(images, classOf(world)) | 1 << world);
            }
            for (int program = 0; program < PROGRAMS; program++) {
                for (int target = 0; target < targets; target++) {
                    split(sources(model, program, at(images, target)));
                }
            }
        }

        private int sources(Model model, int program, int targets) {
            int found = 0;
            for (int world = 0; world < worlds; world++) {
                if ((model.moves(program, world) & targets) != 0) {
                    found |= 1 << world;
                }
            }
            return found;
        }

        /** Makes the classes the worlds of another model, with the letters of a set alone. */
        void quotient(Model model, int letters, Model result) {
            result.reset(number);
            for (int world = 0; world < worlds; world++) {
                int here = classOf(world);
                for (int letter = 0; letter < LETTERS; letter++) {
                    if ((letters >> letter & 1) == 1 && (model.truths(letter) >> world & 1) == 1) {
                        result.putTruth(letter, here, true);
                    }
                }
                for (int program = 0; program < PROGRAMS; program++) {
                    for (int next = 0; next < worlds; next++) {
                        if ((model.moves(program, world) >> next & 1) == 1) {
                            result.putMove(program, here, classOf(next), true);
                        }
                    }
                }
            }
        }
    }

    /** The closure of a formula, each member with the one or two members that it brings in. */
    private static final class Closure {
        private final Pool pool;
        private final int[] members = new int[MAX_MEMBERS];
        private final int[] places = new int[NODES];
        private final int[] firsts = new int[NODES];
        private final int[] seconds = new int[NODES];
        private int used;

        Closure(Pool pool) {
            this.pool = pool;
        }

        int size() {
            return used;
        }

        int member(int place) {
            return at(members, place);
        }

        int placeOf(int node) {
            return node == NONE ? NONE : at(places, node);
        }

        int first(int node) {
            return at(firsts, node);
        }

        int second(int node) {
            return at(seconds, node);
        }

        int bases() {
            int total = 0;
            for (int i = 0; i < used; i++) {
                total += bit(isBaseForm(form(member(i))));
            }
            return total;
        }

        /** Runs need the boxes alone: for them the formulas of tests are left out. */
        void grow(int root, boolean withTests) {
            Arrays.fill(places, NONE);
            used = 0;
            admit(root);
            for (int i = 0; i < used && i < MAX_MEMBERS; i++) {
                expand(member(i), withTests);
            }
        }

        private void admit(int node) {
            if (node != NONE && at(places, node) == NONE && used < MAX_MEMBERS) {
                put(places, node, used);
                put(members, used, node);
                used++;
            }
        }

        private void expand(int node, boolean withTests) {
            int left = pool.left(node);
            int right = pool.right(node);
            int first = right;
            int second = NONE;
            int form = form(node);
            switch (form) {
                case '-':
                    first = left;
                    second = right;
                    break;
                case ';':
                    first = pool.pair('[', pool.left(left), pool.pair('[', pool.right(left), right));
                    break;
                case '+':
                    first = pool.pair('[', pool.left(left), right);
                    second = pool.pair('[', pool.right(left), right);
                    break;
                case '*':
                    second = pool.pair('[', pool.left(left), node);
                    break;
                case '?':
                    first = pool.left(left);
                    second = right;
                    break;
                default:
                    break;
            }
            put(firsts, node, first);
            put(seconds, node, second);
            if (withTests || form != '?') {
                admit(first);
            }
            admit(second);
        }

        /** The kind of a formula, or that of its program if it is a box. */
        int form(int node) {
            return pool.kind(node) == '[' ? pool.kind(pool.left(node)) : pool.kind(node);
        }

        /** Numbers the members in the order of formulas. */
        void sort() {
            for (int i = 1; i < used; i++) {
                int node = member(i);
                int place = i;
                for (int j = i; j > 0 && pool.order(member(j - 1), node) > 0; j--) {
                    put(members, j, member(j - 1));
                    place = j - 1;
                }
                put(members, place, node);
            }
            for (int i = 0; i < used; i++) {
                put(places, member(i), i);
            }
        }
    }

    /**
     * The runs of a program as those of an automaton. Its states are the atomic boxes in the closure of
     * the program's box around the formula END, and END itself; a set of states is a mask of their bits.
     */
    private static final class Runs {
        private static final int STATES = 64;
        private static final int SLOTS = 4096;
        private static final int PROBES = 16;
        private static final long END_BIT = 1L;
        private final Pool pool;
        private final Closure closure;
        private final Truth truth;
        private final Model model;
        private final long[] outcomes = new long[MAX_MEMBERS * MAX_WORLDS];
        private final int[] states = new int[STATES];
        private final long[] front = new long[MAX_WORLDS];
        private final long[] next = new long[MAX_WORLDS];
        private final int[] distances = new int[STATES * MAX_WORLDS];
        private final long[] useful = new long[(MAX_STEPS + 1) * MAX_WORLDS];
        private final long[] keyMasks = new long[SLOTS];
        private final int[] keyPlaces = new int[SLOTS];
        private final long[] answers = new long[SLOTS];
        private int root;
        private int used;

        Runs(Pool pool, Closure closure, Truth truth, Model model) {
            this.pool = pool;
            this.closure = closure;
            this.truth = truth;
            this.model = model;
        }

        void prepare(int program) {
            root = pool.pair('[', program, pool.leaf(END));
            closure.grow(root, false);
            truth.evaluate(model);
            numberStates();
            boolean changed = true;
            for (int round = 0; round <= MAX_MEMBERS && changed; round++) {
                changed = spread();
            }
        }

        /** Gives END the first bit and every atomic box one of the next; both lead to themselves. */
        private void numberStates() {
            Arrays.fill(outcomes, 0L);
            put(states, 0, pool.leaf(END));
            used = 1;
            for (int i = 0; i < closure.size(); i++) {
                int node = closure.member(i);
                if (pool.kind(node) == END) {
                    putOutcome(i, END_BIT);
                } else if (pool.isAtomicBox(node) && used < STATES) {
                    putOutcome(i, 1L << used);
                    put(states, used, node);
                    used++;
                }
            }
        }

        private void putOutcome(int place, long states) {
            for (int world = 0; world < MAX_WORLDS; world++) {
                putWide(outcomes, place * MAX_WORLDS + world, states);
            }
        }

        /** The states to which a box leads in a world without a step. */
        private long outcome(int node, int world) {
            int place = closure.placeOf(node);
            return place == NONE ? 0L : wideAt(outcomes, place * MAX_WORLDS + world);
        }

        private boolean spread() {
            boolean changed = false;
            for (int i = closure.size() - 1; i >= 0; i--) {
                int node = closure.member(i);
                for (int world = 0; pool.isComplexBox(node) && world < model.size(); world++) {
                    long now = outcome(node, world);
                    long more = now | brought(node, world);
                    if (more != now) {
                        putWide(outcomes, i * MAX_WORLDS + world, more);
                        changed = true;
                    }
                }
            }
            return changed;
        }

        private long brought(int box, int world) {
            long second = outcome(closure.second(box), world);
            if (pool.kind(pool.left(box)) == '?') {
                return (truth.mask(closure.first(box)) >> world & 1) == 1 ? second : 0L;
            }
            return outcome(closure.first(box), world) | second;
        }

        private int programOf(int state) {
            return pool.kind(pool.left(at(states, state))) - 'a';
        }

        /** The states that a state leads to by a step into a world. */
        private long after(int state, int world) {
            return outcome(closure.first(at(states, state)), world);
        }

        /** The states, in a world, that have a step into a state of the sets. */
        private long sources(int world, long[] sets) {
            long found = 0L;
            for (int state = 1; state < used; state++) {
                int moves = model.moves(programOf(state), world);
                for (int to = 0; to < model.size(); to++) {
                    if ((moves >> to & 1) == 1 && (after(state, to) & wideAt(sets, to)) != 0L) {
                        found |= 1L << state;
                        break;
                    }
                }
            }
            return found;
        }

        /** Finds for every state in every world the smallest number of steps to END in the world to. */
        void measure(int to) {
            Arrays.fill(distances, NONE);
            Arrays.fill(front, 0L);
            putWide(front, to, END_BIT);
            put(distances, to, 0);
            boolean more = true;
            for (int steps = 1; steps <= STATES * MAX_WORLDS && more; steps++) {
                more = widen(steps);
            }
        }

        private boolean widen(int steps) {
            boolean more = false;
            for (int world = 0; world < model.size(); world++) {
                long found = sources(world, front);
                long fresh = 0L;
                for (int state = 1; state < used; state++) {
                    int place = state * MAX_WORLDS + world;
                    if ((found >> state & 1L) == 1L && at(distances, place) == NONE) {
                        put(distances, place, steps);
                        fresh |= 1L << state;
                    }
                }
                putWide(next, world, fresh);
                more = more || fresh != 0L;
            }
            System.arraycopy(next, 0, front, 0, MAX_WORLDS);
            return more;
        }

        /** The smallest distance of a set of states in a world, or NONE. */
        private int nearest(long set, int world) {
            int best = NONE;
            for (int state = 0; state < used; state++) {
                int distance = at(distances, state * MAX_WORLDS + world);
                boolean counts = (set >> state & 1L) == 1L && distance != NONE;
                if (counts && (best == NONE || distance < best)) {
                    best = distance;
                }
            }
            return best;
        }

        int shortest(int from) {
            return nearest(outcome(root, from), from);
        }

        /** Whether a run of at least one step leads from the measured world back to it. */
        boolean returns(int world) {
            return nearest(outcome(root, world) & ~END_BIT, world) != NONE;
        }

        /** The states after a step from one world to another one by an atomic program. */
        private long moved(long set, int program, int from, int to) {
            long result = 0L;
            if ((model.moves(program, from) >> to & 1) == 0) {
                return result;
            }
            for (int state = 1; state < used; state++) {
                if ((set >> state & 1L) == 1L && programOf(state) == program) {
                    result |= after(state, to);
                }
            }
            return result;
        }

        int bestStep(int from, int index, int part) {
            int world = from;
            long set = outcome(root, from);
            int left = nearest(set, world);
            int step = 0;
            for (int i = 0; i <= index && i < STATES * MAX_WORLDS; i++) {
                left--;
                step = smallestStep(set, world, left);
                set = moved(set, step / MAX_WORLDS, world, step % MAX_WORLDS);
                world = step % MAX_WORLDS;
            }
            return part == 0 ? step / MAX_WORLDS : world;
        }

        /** The first step after which the given number of steps is left, programs counting before worlds. */
        private int smallestStep(long set, int world, int left) {
            for (int program = 0; program < PROGRAMS; program++) {
                for (int to = 0; to < model.size(); to++) {
                    if (nearest(moved(set, program, world, to), to) == left) {
                        return program * MAX_WORLDS + to;
                    }
                }
            }
            return 0;
        }

        long sequences(int from, int to, int steps) {
            Arrays.fill(keyPlaces, 0);
            Arrays.fill(front, 0L);
            putWide(front, to, END_BIT);
            System.arraycopy(front, 0, useful, 0, MAX_WORLDS);
            for (int i = 1; i <= steps; i++) {
                for (int world = 0; world < model.size(); world++) {
                    long set = sources(world, front);
                    putWide(next, world, set);
                    putWide(useful, i * MAX_WORLDS + world, set);
                }
                System.arraycopy(next, 0, front, 0, MAX_WORLDS);
            }
            return tally(outcome(root, from), from, steps);
        }

        /** Counts the sequences of left steps; a set of states stands for all runs with the same steps. */
        private long tally(long states, int world, int left) {
            long set = states & wideAt(useful, left * MAX_WORLDS + world);
            if (set == 0L || left < 0) {
                return 0L;
            }
            if (left == 0) {
                return 1L;
            }
            int place = 1 + left * MAX_WORLDS + world;
            int slot = slotOf(set, place);
            if (slot != NONE && at(keyPlaces, slot) == place) {
                return wideAt(answers, slot);
            }
            long total = 0L;
            for (int program = 0; program < PROGRAMS; program++) {
                for (int to = 0; to < model.size(); to++) {
                    total += tally(moved(set, program, world, to), to, left - 1);
                }
            }
            remember(set, place, total);
            return total;
        }

        /** The slot that holds the key or could take it, or NONE if all probed slots are taken. */
        private int slotOf(long set, int place) {
            long mixed = (set ^ set >>> 17) * 31L + place * 977L;
            int start = (int) (mixed ^ mixed >>> 12) & (SLOTS - 1);
            for (int i = 0; i < PROBES; i++) {
                int slot = (start + i) & (SLOTS - 1);
                boolean same = at(keyPlaces, slot) == place && wideAt(keyMasks, slot) == set;
                if (same || at(keyPlaces, slot) == 0) {
                    return slot;
                }
            }
            return NONE;
        }

        private void remember(long set, int place, long total) {
            int slot = slotOf(set, place);
            if (slot != NONE) {
                put(keyPlaces, slot, place);
                putWide(keyMasks, slot, set);
                putWide(answers, slot, total);
            }
        }
    }

    /**
     * Decides validity by elimination. An atom is a choice of truth for the base members, which fixes the
     * truth of all members; atoms whose false boxes find no run to a refutation are removed until none is
     * left to remove. Sets of atoms are rows of four words. Members are given by their places.
     */
    private static final class Decision {
        private static final int WORDS = 4;
        private static final int ATOMS = 256;
        private static final int OPEN = 0;
        private static final int GROUPED = 1;
        private static final int KNOWN = 2;
        private final Closure closure;
        private final int[] forms = new int[MAX_MEMBERS];
        private final int[] firsts = new int[MAX_MEMBERS];
        private final int[] seconds = new int[MAX_MEMBERS];
        private final int[] states = new int[MAX_MEMBERS];
        private final int[] group = new int[MAX_MEMBERS];
        private final long[] values = new long[MAX_MEMBERS * WORDS];
        private final long[] refuted = new long[MAX_MEMBERS * WORDS];
        private final long[] onward = new long[PROGRAMS * ATOMS * WORDS];
        private final long[] alive = new long[WORDS];
        private int members;
        private int atoms;
        private int words;

        Decision(Closure closure) {
            this.closure = closure;
        }

        private long value(int place, int word) {
            return wideAt(values, place * WORDS + word);
        }

        private long refutation(int place, int word) {
            return wideAt(refuted, place * WORDS + word);
        }

        private boolean isStep(int place) {
            return at(forms, place) >= 'a' && at(forms, place) <= 'c';
        }

        private boolean isComplexBox(int place) {
            int form = at(forms, place);
            return form == ';' || form == '+' || form == '*' || form == '?';
        }

        /** Works on the closure that has been grown and sorted, with at most MAX_BASE base members. */
        void settle() {
            members = closure.size();
            atoms = 1 << Math.min(closure.bases(), MAX_BASE);
            words = (atoms + 63) / 64;
            for (int word = 0; word < words; word++) {
                putWide(alive, word, atoms >= 64 ? -1L : (1L << atoms) - 1L);
            }
            takeMembers();
            for (int i = 0; i < members; i++) {
                if (at(states, i) == OPEN) {
                    fix(i);
                }
            }
            linkAtoms();
            boolean changed = true;
            for (int round = 0; round <= ATOMS && changed; round++) {
                refute();
                changed = remove();
            }
        }

        /** The base member with number i is true in the atoms that have bit i. */
        private void takeMembers() {
            int number = 0;
            for (int i = 0; i < members; i++) {
                int node = closure.member(i);
                put(forms, i, closure.form(node));
                put(firsts, i, closure.placeOf(closure.first(node)));
                put(seconds, i, closure.placeOf(closure.second(node)));
                put(states, i, OPEN);
                if (isBaseForm(at(forms, i))) {
                    for (int word = 0; word < words; word++) {
                        putWide(values, i * WORDS + word, pattern(number, word));
                    }
                    put(states, i, KNOWN);
                    number++;
                }
            }
        }

        private static long pattern(int number, int word) {
            long found = 0L;
            for (int i = 0; i < 64; i++) {
                found |= (long) ((word * 64 + i) >> number & 1) << i;
            }
            return found;
        }

        /** Members come by size, so all that a formula is made of is known before it. */
        private void fix(int place) {
            if (!isComplexBox(place)) {
                combine(place);
                put(states, place, KNOWN);
                return;
            }
            int size = gather(place);
            boolean changed = true;
            for (int round = 0; round <= MAX_MEMBERS && changed; round++) {
                changed = false;
                for (int i = size - 1; i >= 0; i--) {
                    changed = combine(at(group, i)) || changed;
                }
            }
            for (int i = 0; i < size; i++) {
                put(states, at(group, i), KNOWN);
            }
        }

        /**
         * Collects the boxes on which a box depends and which are not known yet. They begin as true
         * everywhere: a box is false only for a reason that is reached in finitely many parts.
         */
        private int gather(int start) {
            int size = enlist(start, 0);
            for (int i = 0; i < size && i < MAX_MEMBERS; i++) {
                int place = at(group, i);
                for (int word = 0; word < words; word++) {
                    putWide(values, place * WORDS + word, -1L);
                }
                size = enlist(at(firsts, place), size);
                size = enlist(at(seconds, place), size);
            }
            return size;
        }

        private int enlist(int place, int size) {
            if (place == NONE || !isComplexBox(place) || at(states, place) != OPEN) {
                return size;
            }
            put(states, place, GROUPED);
            put(group, size, place);
            return size + 1;
        }

        /** Computes a member from those that it brings in; answers whether its value changes. */
        private boolean combine(int place) {
            boolean changed = false;
            for (int word = 0; word < words; word++) {
                long fresh = combined(place, word);
                changed = changed || fresh != value(place, word);
                putWide(values, place * WORDS + word, fresh);
            }
            return changed;
        }

        private long combined(int place, int word) {
            long first = value(at(firsts, place), word);
            long second = value(at(seconds, place), word);
            switch (at(forms, place)) {
                case '-':
                case '?':
                    return ~first | second;
                case ';':
                    return first;
                case '+':
                case '*':
                    return first & second;
                default:
                    return 0L;
            }
        }

        /** The atoms that may follow an atom make true all that its true boxes ask for. */
        private void linkAtoms() {
            Arrays.fill(onward, -1L);
            for (int i = 0; i < members; i++) {
                for (int atom = 0; isStep(i) && atom < atoms; atom++) {
                    if ((value(i, atom / 64) >> (atom & 63) & 1L) == 1L) {
                        narrow((at(forms, i) - 'a') * ATOMS + atom, at(firsts, i));
                    }
                }
            }
        }

        private void narrow(int row, int body) {
            for (int word = 0; word < words; word++) {
                int place = row * WORDS + word;
                putWide(onward, place, wideAt(onward, place) & value(body, word));
            }
        }

        /** Finds for every box the atoms from which a run through atoms leads to a refutation of it. */
        private void refute() {
            for (int i = 0; i < members; i++) {
                boolean isBox = isStep(i) || isComplexBox(i);
                for (int word = 0; word < words; word++) {
                    long first = isBox ? 0L : wideAt(alive, word) & ~value(i, word);
                    putWide(refuted, i * WORDS + word, first);
                }
            }
            boolean changed = true;
            for (int round = 0; round <= MAX_MEMBERS * ATOMS && changed; round++) {
                changed = false;
                for (int i = 0; i < members; i++) {
                    changed = extend(i) || changed;
                }
            }
        }

        private boolean extend(int place) {
            boolean changed = false;
            for (int word = 0; word < words; word++) {
                long now = refutation(place, word);
                long more = now | refutedBy(place, word, now);
                if (more != now) {
                    putWide(refuted, place * WORDS + word, more);
                    changed = true;
                }
            }
            return changed;
        }

        private long refutedBy(int place, int word, long now) {
            int first = at(firsts, place);
            int second = at(seconds, place);
            switch (at(forms, place)) {
                case ';':
                    return refutation(first, word);
                case '+':
                case '*':
                    return refutation(first, word) | refutation(second, word);
                case '?':
                    return value(first, word) & refutation(second, word);
                case 'a':
                case 'b':
                case 'c':
                    return leading(place, word, wideAt(alive, word) & ~now);
                default:
                    return 0L;
            }
        }

        /** Those of the given atoms of a word from which a step leads to a refutation of the body. */
        private long leading(int place, int word, long asked) {
            int row = (at(forms, place) - 'a') * ATOMS + word * 64;
            int body = at(firsts, place) * WORDS;
            long found = 0L;
            for (int i = 0; i < 64; i++) {
                for (int w = 0; (asked >> i & 1L) == 1L && w < words; w++) {
                    if ((wideAt(onward, (row + i) * WORDS + w) & wideAt(refuted, body + w)) != 0L) {
                        found |= 1L << i;
                        break;
                    }
                }
            }
            return found;
        }

        /** Removes the atoms with a false box that is not refuted; answers whether there were any. */
        private boolean remove() {
            boolean changed = false;
            for (int i = 0; i < members; i++) {
                boolean isBox = isStep(i) || isComplexBox(i);
                for (int word = 0; word < words && isBox; word++) {
                    long now = wideAt(alive, word);
                    long left = now & (value(i, word) | refutation(i, word));
                    changed = changed || left != now;
                    putWide(alive, word, left);
                }
            }
            return changed;
        }

        boolean everywhere(int node) {
            for (int word = 0; word < words; word++) {
                if ((wideAt(alive, word) & ~value(closure.placeOf(node), word)) != 0L) {
                    return false;
                }
            }
            return true;
        }

        boolean somewhere(int node) {
            for (int word = 0; word < words; word++) {
                if ((wideAt(alive, word) & value(closure.placeOf(node), word)) != 0L) {
                    return true;
                }
            }
            return false;
        }
    }

    /** Six arrays of up to sixty elements; every element is kept as a long, narrowed to its type. */
    private static final class Buffers {
        private static final int BUFFERS = 6;
        private static final int CELLS = 60;
        private static final int SHORT = 1;
        private static final int TYPES = 5;
        private final int[] types = new int[BUFFERS];
        private final int[] lengths = new int[BUFFERS];
        private final long[] cells = new long[BUFFERS * CELLS];

        Buffers() {
            Arrays.fill(types, NONE);
        }

        boolean has(int buffer) {
            return buffer >= 0 && buffer < BUFFERS;
        }

        boolean isNull(int buffer) {
            return at(types, buffer) == NONE;
        }

        boolean isShort(int buffer) {
            return at(types, buffer) == SHORT;
        }

        boolean isType(int type) {
            return type >= 0 && type < TYPES;
        }

        boolean sameType(int buffer, int other) {
            return at(types, buffer) == at(types, other);
        }

        boolean inside(int buffer, long index) {
            return index >= 0 && index < at(lengths, buffer);
        }

        boolean spans(int buffer, int start, int count) {
            return count >= 0 && start >= 0 && (long) start + count <= at(lengths, buffer);
        }

        void discard(int buffer) {
            put(types, buffer, NONE);
            put(lengths, buffer, 0);
        }

        void renew(int buffer, int type, int length) {
            put(types, buffer, type);
            put(lengths, buffer, length);
            for (int i = 0; i < length && i < CELLS; i++) {
                putWide(cells, buffer * CELLS + i, 0L);
            }
        }

        long cell(int buffer, int index) {
            return wideAt(cells, buffer * CELLS + index);
        }

        void putCell(int buffer, int index, long value) {
            putWide(cells, buffer * CELLS + index, narrowed(at(types, buffer), value));
        }

        private static long narrowed(int type, long value) {
            switch (type) {
                case 0:
                    return (byte) value;
                case 1:
                    return (short) value;
                case 2:
                    return (int) value;
                case 3:
                    return value;
                default:
                    return value != 0L ? 1L : 0L;
            }
        }

        /** Both ranges must have been looked at by spans. */
        void move(int from, int fromIndex, int to, int toIndex, int count) {
            int start = from * CELLS + fromIndex;
            int target = to * CELLS + toIndex;
            if (has(from) && has(to) && spans(from, fromIndex, count) && spans(to, toIndex, count)) {
                System.arraycopy(cells, start, cells, target, count);
            }
        }
    }
}
