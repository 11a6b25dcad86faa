import java.util.Arrays;
import java.util.NoSuchElementException;

/**
 * A small logic: terms of told types, theorems made by ten rules and by definitions alone, theories
 * as texts, conversions put together out of words, and what stands above these.
 *
 * <p>Types, terms, lists of hypotheses and theorems are all nodes of one arena, where like things
 * are kept once: whether two of them are alike is whether their numbers are equal.
 */
public final class TenRules {
    public static final int NONE = -1;

    // What a rule or a conversion answers in a theorem's stead.
    private static final int NOT_SO = -2;
    private static final int NO_ROOM = -3;

    private static final int TROUBLE_NONE_SUCH = 1;
    private static final int TROUBLE_NUMBER = 2;
    private static final int TROUBLE_ROOM = 3;
    private static final int TROUBLE_FAULT = 4;
    private static final int TROUBLE_NOT_SO = 5;

    private static final int FAULT_FORM = 1;
    private static final int FAULT_NAME = 2;
    private static final int FAULT_TYPE = 3;
    private static final int FAULT_RULE = 4;
    private static final int FAULT_MANY = 5;

    private static final int TAPE_BYTES = 400;
    private static final int FEED_BYTES = 20;
    private static final int MOST_VARS = 10;
    private static final int MOST_CONSTS = 10;
    private static final int MOST_THEOREMS = 60;
    private static final int MOST_HYPS = 8;
    private static final int MOST_SIZE = 100;
    private static final int MOST_LETTERS = 8;
    private static final int MOST_NESTED = 12;
    private static final int MOST_RULES = 100;

    // No term that is walked through is deeper: a CONCL of a def has a SIZE of 104 at most.
    private static final int DEEPEST = 128;

    private static final int REFL = 0;
    private static final int TRANS = 1;
    private static final int COMB = 2;
    private static final int ABS = 3;
    private static final int BETA = 4;
    private static final int ASSUME = 5;
    private static final int EQMP = 6;
    private static final int DEDUCT = 7;
    private static final int INST = 8;
    private static final int ETA = 9;
    private static final int RULES = 10;
    private static final int BY_DEF = 10;
    private static final int BY_MORE = 11;

    private final int[] tape;
    private int tapeLength;
    private int faultNumber;
    private int faultPlace;
    private int troubleNumber;
    private final Arena arena;
    private final Terms terms;
    private final Told told;
    private final Survey survey;
    private final Kernel kernel;
    private final Tokens tokens;
    private final TermReader termReader;
    private final LineReader lineReader;
    private final Conv conv;
    private final Engine engine;
    private final Writer writer;

    public TenRules() {
        tape = new int[TAPE_BYTES];
        arena = new Arena();
        terms = new Terms(arena);
        told = new Told(arena);
        survey = new Survey(arena, terms, told);
        kernel = new Kernel(arena, terms, survey);
        tokens = new Tokens(tape);
        termReader = new TermReader(tokens, arena, terms, told);
        lineReader = new LineReader(tokens, termReader, arena, terms, told, kernel);
        conv = new Conv(tokens, told);
        engine = new Engine(arena, terms, told, kernel, conv);
        writer = new Writer(arena, told);
    }

    // ---- texts

    public int feed(int a, int b, int c, int d, int e) {
        if (tapeLength + FEED_BYTES > TAPE_BYTES) {
            return NONE;
        }
        lay(a);
        lay(b);
        lay(c);
        lay(d);
        lay(e);
        return tapeLength;
    }

    public int theory(int n) {
        if (!opens(n)) {
            return refused(TROUBLE_NUMBER);
        }
        lineReader.readLines();
        if (!wasReadWell()) {
            return NONE;
        }
        told.settle();
        return answered(told.theoremCount);
    }

    public int fresh() {
        int were = told.theoremCount;
        told.clear();
        kernel.clear();
        arena.clear();
        return were;
    }

    public int fault() {
        return faultNumber;
    }

    public int where() {
        return troubleNumber == TROUBLE_FAULT ? faultPlace : NONE;
    }

    public int about(int what) {
        switch (what) {
            case 0:
                return answered(told.varCount);
            case 1:
                return answered(told.constCount);
            case 2:
                return answered(told.theoremCount);
            case 3:
                return answered(told.definedCount());
            case 4:
                return answered(kernel.countOfAll());
            case 5:
                return answered(writer.length);
            default:
                return refused(TROUBLE_NONE_SUCH);
        }
    }

    public int used(int rule) {
        if (rule < 0 || rule >= RULES) {
            return refused(TROUBLE_NONE_SUCH);
        }
        return answered(kernel.countOf(rule));
    }

    public int theorem(int t, int what) {
        if (!told.hasTheorem(t)) {
            return refused(TROUBLE_NONE_SUCH);
        }
        int node = told.theoremNode(t);
        switch (what) {
            case 0:
                return answered(arena.sizeOf(arena.leftOf(node)));
            case 1:
                return answered(arena.sizeOf(arena.rightOf(node)));
            case 2:
                return answered(told.makerOf(t));
            case 3:
                return answered(terms.isEquation(arena.rightOf(node)) ? 1 : 0);
            case 4:
                return answered(arena.varsOf(node));
            case 5:
                return answered(arena.constsOf(node));
            default:
                return refused(TROUBLE_NONE_SUCH);
        }
    }

    public int same(int t, int u) {
        if (!told.hasTheorem(t) || !told.hasTheorem(u)) {
            return refused(TROUBLE_NONE_SUCH);
        }
        return answered(told.theoremNode(t) == told.theoremNode(u) ? 1 : 0);
    }

    public int better(int t) {
        if (!told.hasTheorem(t)) {
            return refused(TROUBLE_NONE_SUCH);
        }
        int node = told.theoremNode(t);
        for (int u = 0; u < t; u++) {
            if (kernel.isAtLeast(told.theoremNode(u), node)) {
                return answered(u);
            }
        }
        return answered(t);
    }

    // ---- terms on the tape

    public int term(int n, int what) {
        if (what < 0 || what > 7) {
            return refused(TROUBLE_NONE_SUCH);
        }
        int t = readTerm(n);
        if (t < 0) {
            return NONE;
        }
        int answer = tell(t, what);
        arena.cut();
        return answered(answer);
    }

    public int write(int n) {
        int t = readTerm(n);
        return t < 0 ? NONE : writeTermAndForget(t);
    }

    public int writeType(int n) {
        int t = readTerm(n);
        if (t < 0) {
            return NONE;
        }
        writer.clear();
        writer.putType(arena.typeOf(t), 0);
        arena.cut();
        return answered(writer.length);
    }

    public int writeOf(int t, int i) {
        if (!told.hasTheorem(t)) {
            return refused(TROUBLE_NONE_SUCH);
        }
        int node = told.theoremNode(t);
        if (i < NONE || i >= arena.sizeOf(arena.leftOf(node))) {
            return refused(TROUBLE_NONE_SUCH);
        }
        arena.mark();
        return writeTermAndForget(i == NONE ? arena.rightOf(node) : kernel.hypAt(node, i));
    }

    public int writeSide(int t, int side) {
        if (!told.hasTheorem(t) || side < 0 || side > 1) {
            return refused(TROUBLE_NONE_SUCH);
        }
        int concl = told.conclOf(t);
        if (!terms.isEquation(concl)) {
            return refused(TROUBLE_NOT_SO);
        }
        arena.mark();
        return writeTermAndForget(side == 0 ? terms.leftSide(concl) : terms.rightSide(concl));
    }

    public int octet(int k) {
        if (k < 0) {
            return refused(TROUBLE_NONE_SUCH);
        }
        return answered(writer.byteAt(k));
    }

    // ---- the ten rules

    public int refl(int n) {
        int t = readTerm(n);
        return t < 0 ? NONE : concluded(kernel.makeRefl(t), REFL);
    }

    public int trans(int t, int u) {
        if (!opensTheorems(t, u)) {
            return NONE;
        }
        return concluded(kernel.makeTrans(told.theoremNode(t), told.theoremNode(u)), TRANS);
    }

    public int comb(int t, int u) {
        if (!opensTheorems(t, u)) {
            return NONE;
        }
        return concluded(kernel.makeComb(told.theoremNode(t), told.theoremNode(u)), COMB);
    }

    public int abs(int v, int t) {
        if (!told.hasVar(v)) {
            return refused(TROUBLE_NONE_SUCH);
        }
        if (!opensTheorems(t, t)) {
            return NONE;
        }
        return concluded(kernel.makeAbs(told.varNode(v), told.theoremNode(t)), ABS);
    }

    public int beta(int n) {
        int t = readTerm(n);
        return t < 0 ? NONE : concluded(kernel.makeBeta(t), BETA);
    }

    public int assume(int n) {
        int t = readTerm(n);
        return t < 0 ? NONE : concluded(kernel.makeAssume(t), ASSUME);
    }

    public int eqmp(int t, int u) {
        if (!opensTheorems(t, u)) {
            return NONE;
        }
        return concluded(kernel.makeEqmp(told.theoremNode(t), told.theoremNode(u)), EQMP);
    }

    public int deduct(int t, int u) {
        if (!opensTheorems(t, u)) {
            return NONE;
        }
        return concluded(kernel.makeDeduct(told.theoremNode(t), told.theoremNode(u)), DEDUCT);
    }

    public int inst(int t, int v, int n) {
        if (!told.hasTheorem(t) || !told.hasVar(v)) {
            return refused(TROUBLE_NONE_SUCH);
        }
        int y = readTerm(n);
        if (y < 0) {
            return NONE;
        }
        return concluded(kernel.makeInst(told.theoremNode(t), told.varNode(v), y), INST);
    }

    public int eta(int n) {
        int t = readTerm(n);
        return t < 0 ? NONE : concluded(kernel.makeEta(t), ETA);
    }

    // ---- above them

    public int sym(int t) {
        if (!opensTheorems(t, t)) {
            return NONE;
        }
        return concluded(kernel.makeSym(told.theoremNode(t)), BY_MORE);
    }

    public int convert(int n) {
        if (!opens(n)) {
            return refused(TROUBLE_NUMBER);
        }
        int first = conv.read();
        int t = NONE;
        if (first >= 0 && tokens.take(';')) {
            t = termReader.readWhole(TermReader.ANY);
            tokens.takeEnd();
        }
        if (!wasReadWell()) {
            return NONE;
        }
        return concluded(engine.run(first, t), BY_MORE);
    }

    public int rewrite(int t, int n) {
        if (!told.hasTheorem(t)) {
            return refused(TROUBLE_NONE_SUCH);
        }
        if (!opens(n)) {
            return refused(TROUBLE_NUMBER);
        }
        int first = conv.read();
        tokens.takeEnd();
        if (!wasReadWell()) {
            return NONE;
        }
        int so = engine.run(first, told.conclOf(t));
        return concluded(kernel.makeEqmp(so, told.theoremNode(t)), BY_MORE);
    }

    public int normal(int n) {
        int t = readTerm(n);
        return t < 0 ? NONE : concluded(engine.run(conv.tellNormal(), t), BY_MORE);
    }

    public int decide(int n) {
        int t = readTerm(n);
        if (t < 0) {
            return NONE;
        }
        if (!terms.isEquation(t)) {
            return concluded(NOT_SO, BY_MORE);
        }
        int first = conv.tellNormal();
        int left = engine.run(first, terms.leftSide(t));
        int right = left < 0 ? left : engine.run(first, terms.rightSide(t));
        return concluded(kernel.makeJoined(left, right), BY_MORE);
    }

    public int unfold(int t) {
        if (!opensTheorems(t, t)) {
            return NONE;
        }
        int so = engine.run(conv.tellUnfold(), told.conclOf(t));
        return concluded(kernel.makeEqmp(so, told.theoremNode(t)), BY_MORE);
    }

    // ---- what is told

    public int named(int n) throws NoSuchElementException {
        int t = NONE;
        if (n >= 0 && n <= tapeLength) {
            int name = tokens.onlyName(n);
            t = name < 0 ? NONE : told.theoremNamed(name);
        }
        if (t < 0) {
            throw new NoSuchElementException("no theorem of that name");
        }
        return t;
    }

    public int size() {
        return tapeLength;
    }

    public int trouble() {
        return troubleNumber;
    }

    // ---- what the calls have in common

    private void lay(int number) {
        for (int shift = 24; shift >= 0; shift -= 8) {
            if (tapeLength < tape.length) {
                tape[tapeLength] = (number >>> shift) & 255;
                tapeLength++;
            }
        }
    }

    private int answered(int answer) {
        troubleNumber = 0;
        return answer;
    }

    private int refused(int number) {
        troubleNumber = number;
        return NONE;
    }

    /** From here on all that comes can be taken back. */
    private void begin() {
        arena.mark();
        told.mark();
        kernel.mark();
    }

    private void takeBack() {
        told.goBack();
        kernel.goBack();
        arena.cut();
    }

    private boolean opens(int n) {
        if (n < 0 || n > tapeLength) {
            return false;
        }
        begin();
        tokens.start(n);
        tapeLength = 0;
        return true;
    }

    private boolean opensTheorems(int t, int u) {
        if (!told.hasTheorem(t) || !told.hasTheorem(u)) {
            refused(TROUBLE_NONE_SUCH);
            return false;
        }
        begin();
        return true;
    }

    private boolean wasReadWell() {
        faultNumber = tokens.fault;
        if (faultNumber == 0) {
            return true;
        }
        faultPlace = tokens.faultPlace;
        takeBack();
        refused(TROUBLE_FAULT);
        return false;
    }

    /** The TERM in the first n bytes; below 0, the call being refused, if there is none. */
    private int readTerm(int n) {
        if (!opens(n)) {
            return refused(TROUBLE_NUMBER);
        }
        int t = termReader.readWhole(TermReader.ANY);
        tokens.takeEnd();
        return wasReadWell() ? t : NONE;
    }

    private int tell(int t, int what) {
        switch (what) {
            case 0:
                return arena.sizeOf(t);
            case 1:
                return survey.mostAbs(t, 0);
            case 2:
                return arena.varsOf(t);
            case 3:
                return arena.constsOf(t);
            case 4:
                return arena.typeOf(t) == Arena.TRUTH ? 1 : 0;
            default:
                return survey.places(t, what, 0);
        }
    }

    private int writeTermAndForget(int t) {
        writer.clear();
        writer.putTerm(t, 0, 0);
        arena.cut();
        return answered(writer.length);
    }

    private int concluded(int made, int maker) {
        boolean full = told.theoremCount >= MOST_THEOREMS;
        if (made < 0 || full) {
            takeBack();
            return refused(made == NOT_SO ? TROUBLE_NOT_SO : TROUBLE_ROOM);
        }
        int number = told.addTheorem(made, NONE, maker);
        told.settle();
        return answered(number);
    }

    /**
     * The nodes of types, terms, HYPS and theorems. A node is made of nodes that are older, so that
     * the newest can be cut off, and the living ones slid together, in one pass.
     */
    private static final class Arena {
        static final int NOTHING = 0;
        static final int LETTER = 1;
        static final int ARROW = 2;
        static final int VAR = 3;
        static final int CONST = 4;
        static final int EQUAL = 5;
        static final int INDEX = 6;
        static final int APPLIED = 7;
        static final int LAMBDA = 8;
        static final int HYP = 9;
        static final int THEOREM = 10;

        static final int NO_HYPS = 0;
        static final int TRUTH = 1;
        static final int THING = 2;

        private static final int KEPT_ALWAYS = 3;
        private static final int FIRST_ROOM = 512;

        private int[] kinds = new int[FIRST_ROOM];
        private int[] lefts = new int[FIRST_ROOM];
        private int[] rights = new int[FIRST_ROOM];
        private int[] types = new int[FIRST_ROOM];
        private int[] sizes = new int[FIRST_ROOM];
        private int[] looses = new int[FIRST_ROOM];
        private int[] vars = new int[FIRST_ROOM];
        private int[] consts = new int[FIRST_ROOM];
        private int[] hashes = new int[FIRST_ROOM];
        private int[] nexts = new int[FIRST_ROOM];
        private int[] moves = new int[FIRST_ROOM];
        private int[] heads = new int[FIRST_ROOM];
        private int count;
        private int marked;

        Arena() {
            Arrays.fill(heads, NONE);
            node(NOTHING, 0, 0, 0);
            node(LETTER, 0, 'o', 0);
            node(LETTER, 0, 'i', 0);
            marked = KEPT_ALWAYS;
        }

        int kindOf(int id) {
            return id >= 0 && id < count ? kinds[id] : NOTHING;
        }

        int leftOf(int id) {
            return id >= 0 && id < count ? lefts[id] : 0;
        }

        int rightOf(int id) {
            return id >= 0 && id < count ? rights[id] : 0;
        }

        int typeOf(int id) {
            return id >= 0 && id < count ? types[id] : 0;
        }

        /** SIZE of a term or of a theorem's CONCL, letters of a type, how many HYPS a list has. */
        int sizeOf(int id) {
            return id >= 0 && id < count ? sizes[id] : 0;
        }

        /** How many \ must stand round the term to bind all that it leaves free. */
        int looseOf(int id) {
            return id >= 0 && id < count ? looses[id] : 0;
        }

        int varsOf(int id) {
            return id >= 0 && id < count ? vars[id] : 0;
        }

        int constsOf(int id) {
            return id >= 0 && id < count ? consts[id] : 0;
        }

        /** The node of these parts, made if there is none; the type follows from the parts. */
        int node(int kind, int left, int right, int type) {
            int hash = (kind * 7919 + left) * 31337 + right;
            hash ^= hash >>> 15;
            int at = heads[hash & (heads.length - 1)];
            for (int i = 0; i < count && at >= 0 && at < count; i++) {
                if (kinds[at] == kind && lefts[at] == left && rights[at] == right) {
                    return at;
                }
                at = nexts[at];
            }
            if (count >= kinds.length) {
                grow();
            }
            int made = count;
            count++;
            kinds[made] = kind;
            lefts[made] = left;
            rights[made] = right;
            types[made] = type;
            hashes[made] = hash;
            link(made);
            measure(made);
            return made;
        }

        private void link(int id) {
            int bucket = hashes[id] & (heads.length - 1);
            nexts[id] = heads[bucket];
            heads[bucket] = id;
        }

        private void grow() {
            int room = kinds.length * 2;
            kinds = Arrays.copyOf(kinds, room);
            lefts = Arrays.copyOf(lefts, room);
            rights = Arrays.copyOf(rights, room);
            types = Arrays.copyOf(types, room);
            sizes = Arrays.copyOf(sizes, room);
            looses = Arrays.copyOf(looses, room);
            vars = Arrays.copyOf(vars, room);
            consts = Arrays.copyOf(consts, room);
            hashes = Arrays.copyOf(hashes, room);
            moves = Arrays.copyOf(moves, room);
            nexts = new int[room];
            heads = new int[room];
            Arrays.fill(heads, NONE);
            for (int id = 0; id < count; id++) {
                int bucket = hashes[id] & (room - 1);
                nexts[id] = heads[bucket];
                heads[bucket] = id;
            }
        }

        /** A type has neither VARS nor CONSTS, so that those of both parts are a lambda's, too. */
        private void measure(int id) {
            int number = rights[id];
            int left = lefts[id] >= 0 && lefts[id] < id ? lefts[id] : 0;
            int right = number >= 0 && number < id ? number : 0;
            boolean joins = kinds[id] >= APPLIED;
            vars[id] = joins ? vars[left] | vars[right] : 0;
            consts[id] = joins ? consts[left] | consts[right] : 0;
            sizes[id] = 1;
            looses[id] = 0;
            switch (kinds[id]) {
                case NOTHING:
                    sizes[id] = 0;
                    break;
                case ARROW:
                    sizes[id] = sizes[left] + sizes[right];
                    break;
                case VAR:
                    vars[id] = 1 << Math.min(number, MOST_VARS);
                    break;
                case CONST:
                    consts[id] = 1 << number;
                    break;
                case INDEX:
                    looses[id] = number + 1;
                    break;
                case APPLIED:
                    sizes[id] = 1 + sizes[left] + sizes[right];
                    looses[id] = Math.max(looses[left], looses[right]);
                    break;
                case LAMBDA:
                    sizes[id] = 1 + sizes[right];
                    looses[id] = Math.max(0, looses[right] - 1);
                    break;
                case HYP:
                    sizes[id] = 1 + sizes[right];
                    break;
                case THEOREM:
                    sizes[id] = sizes[right];
                    break;
                default:
                    break;
            }
        }

        /** The VARS that stand for opened variables share one bit: they are many. */
        static int varBit(int number) {
            return 1 << Math.min(number, MOST_VARS);
        }

        void mark() {
            marked = count;
        }

        void cut() {
            unlink();
            count = marked;
        }

        void clear() {
            marked = KEPT_ALWAYS;
            cut();
        }

        /** Newest first: each one is the head of its chain when its turn comes. */
        private void unlink() {
            for (int id = count - 1; id >= marked; id--) {
                heads[hashes[id] & (heads.length - 1)] = nexts[id];
            }
        }

        void startFlags() {
            if (marked < count) {
                Arrays.fill(moves, marked, count, 0);
            }
        }

        void flag(int id) {
            if (id >= marked && id < count) {
                moves[id] = 1;
            }
        }

        /** Of the nodes since the mark only the flagged ones and their parts stay. */
        void gather() {
            for (int id = count - 1; id >= marked; id--) {
                if (moves[id] != 0) {
                    flag(types[id]);
                    flag(lefts[id]);
                    if (hasRightPart(kinds[id])) {
                        flag(rights[id]);
                    }
                }
            }
            unlink();
            int end = count;
            count = marked;
            for (int id = marked; id < end; id++) {
                if (moves[id] != 0) {
                    move(id, count);
                    moves[id] = count;
                    count++;
                }
            }
        }

        private static boolean hasRightPart(int kind) {
            return kind == ARROW || kind >= APPLIED;
        }

        private void move(int from, int to) {
            kinds[to] = kinds[from];
            lefts[to] = moved(lefts[from]);
            rights[to] = hasRightPart(kinds[from]) ? moved(rights[from]) : rights[from];
            types[to] = moved(types[from]);
            sizes[to] = sizes[from];
            looses[to] = looses[from];
            vars[to] = vars[from];
            consts[to] = consts[from];
            int hash = (kinds[to] * 7919 + lefts[to]) * 31337 + rights[to];
            hashes[to] = hash ^ hash >>> 15;
            link(to);
        }

        int moved(int id) {
            return id >= marked && id < moves.length ? moves[id] : id;
        }
    }

    /**
     * How terms are put together and changed. A bound variable is kept as the number of \ between
     * it and its own: so a term without free LEVELS is the same node wherever it stands.
     */
    private static final class Terms {
        private final Arena arena;

        Terms(Arena arena) {
            this.arena = arena;
        }

        int variable(int number, int type) {
            return arena.node(Arena.VAR, type, number, type);
        }

        int equal(int type) {
            int rest = arena.node(Arena.ARROW, type, Arena.TRUTH, 0);
            return arena.node(Arena.EQUAL, type, 0, arena.node(Arena.ARROW, type, rest, 0));
        }

        boolean fits(int f, int x) {
            int type = arena.typeOf(f);
            return arena.kindOf(type) == Arena.ARROW && arena.leftOf(type) == arena.typeOf(x);
        }

        int apply(int f, int x) {
            return arena.node(Arena.APPLIED, f, x, arena.rightOf(arena.typeOf(f)));
        }

        int lambda(int type, int body) {
            int whole = arena.node(Arena.ARROW, type, arena.typeOf(body), 0);
            return arena.node(Arena.LAMBDA, type, body, whole);
        }

        int equation(int left, int right) {
            int type = arena.typeOf(left);
            int rest = arena.node(Arena.ARROW, type, Arena.TRUTH, 0);
            int whole = arena.node(Arena.ARROW, type, rest, 0);
            int equal = arena.node(Arena.EQUAL, type, 0, whole);
            int half = arena.node(Arena.APPLIED, equal, left, rest);
            return arena.node(Arena.APPLIED, half, right, Arena.TRUTH);
        }

        boolean isEquation(int t) {
            int half = arena.leftOf(t);
            return arena.kindOf(t) == Arena.APPLIED
                && arena.kindOf(half) == Arena.APPLIED
                && arena.kindOf(arena.leftOf(half)) == Arena.EQUAL;
        }

        int leftSide(int equation) {
            return arena.rightOf(arena.leftOf(equation));
        }

        int rightSide(int equation) {
            return arena.rightOf(equation);
        }

        boolean isRedex(int t) {
            return arena.kindOf(t) == Arena.APPLIED
                && arena.kindOf(arena.leftOf(t)) == Arena.LAMBDA;
        }

        boolean isEtaRedex(int t) {
            int body = arena.rightOf(t);
            if (arena.kindOf(t) != Arena.LAMBDA || arena.kindOf(body) != Arena.APPLIED) {
                return false;
            }
            int x = arena.rightOf(body);
            return arena.kindOf(x) == Arena.INDEX
                && arena.rightOf(x) == 0
                && !hasIndex(arena.leftOf(body), 0, 0);
        }

        private boolean hasIndex(int t, int k, int depth) {
            if (arena.looseOf(t) <= k || depth > DEEPEST) {
                return false;
            }
            switch (arena.kindOf(t)) {
                case Arena.INDEX:
                    return arena.rightOf(t) == k;
                case Arena.APPLIED:
                    return hasIndex(arena.leftOf(t), k, depth + 1)
                        || hasIndex(arena.rightOf(t), k, depth + 1);
                default:
                    return hasIndex(arena.rightOf(t), k + 1, depth + 1);
            }
        }

        /**
         * The term with y for the variable of the k-th \ round it. y leaves nothing free, so that
         * it stays the same at every depth; and types stay, too.
         */
        int fill(int t, int k, int y, int depth) {
            if (arena.looseOf(t) <= k || depth > DEEPEST) {
                return t;
            }
            int left = arena.leftOf(t);
            int right = arena.rightOf(t);
            switch (arena.kindOf(t)) {
                case Arena.INDEX:
                    return right == k ? y : t;
                case Arena.APPLIED:
                    left = fill(left, k, y, depth + 1);
                    right = fill(right, k, y, depth + 1);
                    return arena.node(Arena.APPLIED, left, right, arena.typeOf(t));
                default:
                    right = fill(right, k + 1, y, depth + 1);
                    return arena.node(Arena.LAMBDA, left, right, arena.typeOf(t));
            }
        }

        /** The term with the variable of the k-th \ round it for each VAR of the number. */
        int bind(int t, int number, int k, int depth) {
            if ((arena.varsOf(t) & Arena.varBit(number)) == 0 || depth > DEEPEST) {
                return t;
            }
            int left = arena.leftOf(t);
            int right = arena.rightOf(t);
            switch (arena.kindOf(t)) {
                case Arena.VAR:
                    return right == number ? arena.node(Arena.INDEX, left, k, left) : t;
                case Arena.APPLIED:
                    left = bind(left, number, k, depth + 1);
                    right = bind(right, number, k, depth + 1);
                    return arena.node(Arena.APPLIED, left, right, arena.typeOf(t));
                default:
                    right = bind(right, number, k + 1, depth + 1);
                    return arena.node(Arena.LAMBDA, left, right, arena.typeOf(t));
            }
        }
    }

    /** VARS, CONSTS and THEOREMS: they only come at the end, so that counts tell how to go back. */
    private static final class Told {
        private final Arena arena;
        private final int[] varNames = new int[MOST_VARS];
        private final int[] varTypes = new int[MOST_VARS];
        private final int[] constNames = new int[MOST_CONSTS];
        private final int[] constTypes = new int[MOST_CONSTS];
        private final int[] constTheorems = new int[MOST_CONSTS];
        private final int[] theoremNodes = new int[MOST_THEOREMS];
        private final int[] theoremNames = new int[MOST_THEOREMS];
        private final int[] theoremMakers = new int[MOST_THEOREMS];
        private int varCount;
        private int constCount;
        private int theoremCount;
        private int markedVars;
        private int markedConsts;
        private int markedTheorems;

        Told(Arena arena) {
            this.arena = arena;
        }

        void clear() {
            varCount = 0;
            constCount = 0;
            theoremCount = 0;
        }

        void mark() {
            markedVars = varCount;
            markedConsts = constCount;
            markedTheorems = theoremCount;
        }

        void goBack() {
            varCount = markedVars;
            constCount = markedConsts;
            theoremCount = markedTheorems;
        }

        boolean hasVar(int v) {
            return v >= 0 && v < varCount;
        }

        boolean hasConst(int c) {
            return c >= 0 && c < constCount;
        }

        boolean hasTheorem(int t) {
            return t >= 0 && t < theoremCount;
        }

        int nameOf(int kind, int number) {
            if (kind == Arena.VAR) {
                return number >= 0 && number < varCount ? varNames[number] : 0;
            }
            return number >= 0 && number < constCount ? constNames[number] : 0;
        }

        int varType(int v) {
            return v >= 0 && v < varCount ? varTypes[v] : Arena.TRUTH;
        }

        int constType(int c) {
            return c >= 0 && c < constCount ? constTypes[c] : Arena.TRUTH;
        }

        int varNode(int v) {
            return arena.node(Arena.VAR, varType(v), v, varType(v));
        }

        int constNode(int c) {
            return arena.node(Arena.CONST, constType(c), c, constType(c));
        }

        int theoremNode(int t) {
            return hasTheorem(t) ? theoremNodes[t] : NONE;
        }

        int conclOf(int t) {
            return arena.rightOf(theoremNode(t));
        }

        int makerOf(int t) {
            return hasTheorem(t) ? theoremMakers[t] : NONE;
        }

        /** The number of the THEOREM that a def gave of this CONST; NONE if none did. */
        int definitionOf(int c) {
            return hasConst(c) ? constTheorems[c] : NONE;
        }

        int definedCount() {
            int defined = 0;
            for (int c = 0; c < constCount; c++) {
                if (definitionOf(c) >= 0) {
                    defined++;
                }
            }
            return defined;
        }

        int varNamed(int name) {
            return placeOf(varNames, varCount, name);
        }

        int constNamed(int name) {
            return placeOf(constNames, constCount, name);
        }

        int theoremNamed(int name) {
            return placeOf(theoremNames, theoremCount, name);
        }

        boolean isTold(int name) {
            return varNamed(name) >= 0 || constNamed(name) >= 0 || theoremNamed(name) >= 0;
        }

        private static int placeOf(int[] names, int count, int name) {
            for (int i = 0; i < count && i < names.length; i++) {
                if (names[i] == name && name >= 0) {
                    return i;
                }
            }
            return NONE;
        }

        void addVar(int name, int type) {
            if (varCount < MOST_VARS) {
                varNames[varCount] = name;
                varTypes[varCount] = type;
                varCount++;
            }
        }

        int addConst(int name, int type, int theorem) {
            if (constCount >= MOST_CONSTS) {
                return NONE;
            }
            constNames[constCount] = name;
            constTypes[constCount] = type;
            constTheorems[constCount] = theorem;
            constCount++;
            return constCount - 1;
        }

        int addTheorem(int node, int name, int maker) {
            if (theoremCount >= MOST_THEOREMS) {
                return NONE;
            }
            theoremNodes[theoremCount] = node;
            theoremNames[theoremCount] = name;
            theoremMakers[theoremCount] = maker;
            theoremCount++;
            return theoremCount - 1;
        }

        /** What a call made on its way and nothing told needs goes: the room must do for all calls. */
        void settle() {
            arena.startFlags();
            flagAll(varTypes, varCount);
            flagAll(constTypes, constCount);
            flagAll(theoremNodes, theoremCount);
            arena.gather();
            moveAll(varTypes, varCount);
            moveAll(constTypes, constCount);
            moveAll(theoremNodes, theoremCount);
        }

        private void flagAll(int[] nodes, int count) {
            for (int i = 0; i < count && i < nodes.length; i++) {
                arena.flag(nodes[i]);
            }
        }

        private void moveAll(int[] nodes, int count) {
            for (int i = 0; i < count && i < nodes.length; i++) {
                nodes[i] = arena.moved(nodes[i]);
            }
        }
    }

    /** What is seen of a term as a whole: its order by WRITTEN, and its places. */
    private static final class Survey {
        private final Arena arena;
        private final Terms terms;
        private final Told told;

        Survey(Arena arena, Terms terms, Told told) {
            this.arena = arena;
            this.terms = terms;
            this.told = told;
        }

        /**
         * Below 0, 0, above 0 as one is WRITTEN ahead of, like, behind the other. Part by part is
         * byte by byte: a name or number that goes on is behind one that ends, for what may follow
         * it (a blank, a closing bracket, the end) is less than letters and digits are.
         */
        int compare(int one, int other, int around, int depth) {
            if (one == other || depth > DEEPEST) {
                return 0;
            }
            int kind = arena.kindOf(one);
            int otherKind = arena.kindOf(other);
            int byFirst = Integer.compare(firstByte(kind), firstByte(otherKind));
            if (byFirst != 0) {
                return byFirst;
            }
            switch (kind) {
                case Arena.LETTER:
                    return one == Arena.THING ? -1 : 1;
                case Arena.VAR:
                case Arena.CONST:
                    return Integer.compare(told.nameOf(kind, arena.rightOf(one)),
                        told.nameOf(otherKind, arena.rightOf(other)));
                case Arena.INDEX:
                    return Integer.compare(digitsOf(around - 1 - arena.rightOf(one)),
                        digitsOf(around - 1 - arena.rightOf(other)));
                case Arena.ARROW:
                case Arena.APPLIED:
                case Arena.LAMBDA:
                    int byLeft = compare(arena.leftOf(one), arena.leftOf(other), around, depth + 1);
                    if (byLeft != 0) {
                        return byLeft;
                    }
                    return compare(arena.rightOf(one), arena.rightOf(other),
                        kind == Arena.LAMBDA ? around + 1 : around, depth + 1);
                default:
                    return 0;
            }
        }

        /** Of what is WRITTEN of such a node, or the least one: it parts the kinds. */
        private static int firstByte(int kind) {
            switch (kind) {
                case Arena.ARROW:
                case Arena.APPLIED:
                    return '(';
                case Arena.INDEX:
                    return '0';
                case Arena.EQUAL:
                    return '=';
                case Arena.LAMBDA:
                    return '\\';
                case Arena.LETTER:
                    return 'i';
                default:
                    return 'a';
            }
        }

        /** Orders LEVELS, below 100 all of them, as their digits do: 1, 10, 11, .., 2, 20, .. */
        private static int digitsOf(int level) {
            return level < 10 ? level * 11 : level / 10 * 11 + level % 10 + 1;
        }

        int mostAbs(int t, int depth) {
            if (depth > DEEPEST) {
                return 0;
            }
            switch (arena.kindOf(t)) {
                case Arena.APPLIED:
                    return Math.max(mostAbs(arena.leftOf(t), depth + 1),
                        mostAbs(arena.rightOf(t), depth + 1));
                case Arena.LAMBDA:
                    return 1 + mostAbs(arena.rightOf(t), depth + 1);
                default:
                    return 0;
            }
        }

        /** How many places there are where beta (5), def (6), eta (7) could be used. */
        int places(int t, int what, int depth) {
            if (depth > DEEPEST) {
                return 0;
            }
            int here = isPlace(t, what) ? 1 : 0;
            switch (arena.kindOf(t)) {
                case Arena.APPLIED:
                    return here + places(arena.leftOf(t), what, depth + 1)
                        + places(arena.rightOf(t), what, depth + 1);
                case Arena.LAMBDA:
                    return here + places(arena.rightOf(t), what, depth + 1);
                default:
                    return here;
            }
        }

        private boolean isPlace(int t, int what) {
            if (what == 5) {
                return terms.isRedex(t);
            }
            if (what == 6) {
                return arena.kindOf(t) == Arena.CONST && told.definitionOf(arena.rightOf(t)) >= 0;
            }
            return terms.isEtaRedex(t);
        }
    }

    /**
     * The ten rules, and how often they were used. Each takes what another answered in a theorem's
     * stead and answers it again, so that they can be written one within another.
     */
    private static final class Kernel {
        private final Arena arena;
        private final Terms terms;
        private final Survey survey;
        private final int[] counts = new int[RULES];
        private final int[] markedCounts = new int[RULES];
        private int spent;
        private final int[] row = new int[2 * MOST_HYPS];
        private int rowLength;

        Kernel(Arena arena, Terms terms, Survey survey) {
            this.arena = arena;
            this.terms = terms;
            this.survey = survey;
        }

        void clear() {
            Arrays.fill(counts, 0);
        }

        /** A THEORY has fewer LINES than one of them may use RULES: calls alone begin anew. */
        void mark() {
            System.arraycopy(counts, 0, markedCounts, 0, RULES);
            spent = 0;
        }

        void goBack() {
            System.arraycopy(markedCounts, 0, counts, 0, RULES);
        }

        int countOf(int rule) {
            return rule >= 0 && rule < RULES ? counts[rule] : 0;
        }

        int countOfAll() {
            int all = 0;
            for (int rule = 0; rule < RULES; rule++) {
                all += counts[rule];
            }
            return all;
        }

        /** Whether there was room for one use more. */
        boolean spend() {
            if (spent >= MOST_RULES) {
                return false;
            }
            spent++;
            return true;
        }

        int leftOf(int theorem) {
            return terms.leftSide(arena.rightOf(theorem));
        }

        int rightOf(int theorem) {
            return terms.rightSide(arena.rightOf(theorem));
        }

        private boolean equates(int theorem) {
            return terms.isEquation(arena.rightOf(theorem));
        }

        int makeRefl(int t) {
            rowLength = 0;
            return made(REFL, terms.equation(t, t));
        }

        int makeTrans(int t, int u) {
            if (t < 0 || u < 0) {
                return t < 0 ? t : u;
            }
            if (!equates(t) || !equates(u) || rightOf(t) != leftOf(u)) {
                return NOT_SO;
            }
            rowLength = 0;
            collect(arena.leftOf(t), NONE);
            collect(arena.leftOf(u), NONE);
            return made(TRANS, terms.equation(leftOf(t), rightOf(u)));
        }

        int makeComb(int t, int u) {
            if (t < 0 || u < 0) {
                return t < 0 ? t : u;
            }
            if (!equates(t) || !equates(u) || !terms.fits(leftOf(t), leftOf(u))) {
                return NOT_SO;
            }
            rowLength = 0;
            collect(arena.leftOf(t), NONE);
            collect(arena.leftOf(u), NONE);
            int left = terms.apply(leftOf(t), leftOf(u));
            int right = terms.apply(rightOf(t), rightOf(u));
            return made(COMB, terms.equation(left, right));
        }

        int makeAbs(int var, int t) {
            if (t < 0) {
                return t;
            }
            int hyps = arena.leftOf(t);
            if (!equates(t) || (arena.varsOf(hyps) & arena.varsOf(var)) != 0) {
                return NOT_SO;
            }
            rowLength = 0;
            collect(hyps, NONE);
            int type = arena.typeOf(var);
            int number = arena.rightOf(var);
            int left = terms.lambda(type, terms.bind(leftOf(t), number, 0, 0));
            int right = terms.lambda(type, terms.bind(rightOf(t), number, 0, 0));
            return made(ABS, terms.equation(left, right));
        }

        int makeBeta(int t) {
            if (!terms.isRedex(t)) {
                return NOT_SO;
            }
            rowLength = 0;
            int body = arena.rightOf(arena.leftOf(t));
            return made(BETA, terms.equation(t, terms.fill(body, 0, arena.rightOf(t), 0)));
        }

        int makeAssume(int t) {
            if (arena.typeOf(t) != Arena.TRUTH) {
                return NOT_SO;
            }
            row[0] = t;
            rowLength = 1;
            return made(ASSUME, t);
        }

        int makeEqmp(int t, int u) {
            if (t < 0 || u < 0) {
                return t < 0 ? t : u;
            }
            if (!equates(t) || leftOf(t) != arena.rightOf(u)) {
                return NOT_SO;
            }
            rowLength = 0;
            collect(arena.leftOf(t), NONE);
            collect(arena.leftOf(u), NONE);
            return made(EQMP, rightOf(t));
        }

        int makeDeduct(int t, int u) {
            int concl = arena.rightOf(t);
            int otherConcl = arena.rightOf(u);
            rowLength = 0;
            collect(arena.leftOf(t), otherConcl);
            collect(arena.leftOf(u), concl);
            return made(DEDUCT, terms.equation(concl, otherConcl));
        }

        int makeInst(int t, int var, int y) {
            if (t < 0) {
                return t;
            }
            if (arena.typeOf(var) != arena.typeOf(y)) {
                return NOT_SO;
            }
            int number = arena.rightOf(var);
            int concl = terms.fill(terms.bind(arena.rightOf(t), number, 0, 0), 0, y, 0);
            int rest = arena.leftOf(t);
            rowLength = 0;
            for (int i = 0; i < MOST_HYPS && arena.kindOf(rest) == Arena.HYP; i++) {
                int hyp = terms.fill(terms.bind(arena.leftOf(rest), number, 0, 0), 0, y, 0);
                if (arena.sizeOf(hyp) > MOST_SIZE) {
                    return NO_ROOM;
                }
                collect(arena.node(Arena.HYP, hyp, Arena.NO_HYPS, 0), NONE);
                rest = arena.rightOf(rest);
            }
            return made(INST, concl);
        }

        int makeEta(int t) {
            if (!terms.isEtaRedex(t)) {
                return NOT_SO;
            }
            rowLength = 0;
            return made(ETA, terms.equation(t, arena.leftOf(arena.rightOf(t))));
        }

        /** No rule: six uses of them. */
        int makeSym(int t) {
            if (t < 0) {
                return t;
            }
            if (!equates(t)) {
                return NOT_SO;
            }
            int left = leftOf(t);
            int equals = makeRefl(terms.equal(arena.typeOf(left)));
            int halves = makeComb(equals, t);
            int wholes = makeComb(halves, makeRefl(left));
            return makeEqmp(wholes, makeRefl(left));
        }

        /** Of l = m, r = m: l = r; no rule, either. */
        int makeJoined(int t, int u) {
            if (t < 0 || u < 0) {
                return t < 0 ? t : u;
            }
            if (rightOf(t) != rightOf(u)) {
                return NOT_SO;
            }
            return makeTrans(t, makeSym(u));
        }

        /** The THEOREM of the CONCL and of the HYPS in the row, if there is room for it. */
        private int made(int rule, int concl) {
            if (rowLength > MOST_HYPS || arena.sizeOf(concl) > MOST_SIZE || !spend()) {
                return NO_ROOM;
            }
            counts[rule]++;
            int hyps = Arena.NO_HYPS;
            for (int i = rowLength - 1; i >= 0; i--) {
                hyps = arena.node(Arena.HYP, row[i], hyps, 0);
            }
            return arena.node(Arena.THEOREM, hyps, concl, 0);
        }

        /** Puts the HYPS of a list, but for one, into the row by WRITTEN, like ones once. */
        private void collect(int hyps, int but) {
            int rest = hyps;
            for (int i = 0; i < MOST_HYPS && arena.kindOf(rest) == Arena.HYP; i++) {
                int hyp = arena.leftOf(rest);
                int at = 0;
                while (at < rowLength && survey.compare(row[at], hyp, 0, 0) < 0) {
                    at++;
                }
                if (hyp != but && !(at < rowLength && row[at] == hyp)) {
                    insert(hyp, at);
                }
                rest = arena.rightOf(rest);
            }
        }

        private void insert(int hyp, int at) {
            if (rowLength >= row.length || at > rowLength) {
                return;
            }
            for (int i = rowLength; i > at; i--) {
                row[i] = row[i - 1];
            }
            row[at] = hyp;
            rowLength++;
        }

        int hypAt(int theorem, int place) {
            int rest = arena.leftOf(theorem);
            for (int i = 0; i < place && i < MOST_HYPS; i++) {
                rest = arena.rightOf(rest);
            }
            return arena.leftOf(rest);
        }

        /** Whether the one has the like CONCL and no HYP that the other hasn't. */
        boolean isAtLeast(int one, int other) {
            if (arena.rightOf(one) != arena.rightOf(other)) {
                return false;
            }
            int rest = arena.leftOf(one);
            for (int i = 0; i < MOST_HYPS && arena.kindOf(rest) == Arena.HYP; i++) {
                if (!hasHyp(other, arena.leftOf(rest))) {
                    return false;
                }
                rest = arena.rightOf(rest);
            }
            return true;
        }

        private boolean hasHyp(int theorem, int hyp) {
            int rest = arena.leftOf(theorem);
            for (int i = 0; i < MOST_HYPS && arena.kindOf(rest) == Arena.HYP; i++) {
                if (arena.leftOf(rest) == hyp) {
                    return true;
                }
                rest = arena.rightOf(rest);
            }
            return false;
        }
    }

    /** The text read token by token, and the FAULT that stopped the reading. */
    private static final class Tokens {
        static final int END = 0;
        static final int BAD = 1;
        static final int NAME = 2;
        static final int WORD = 3;

        // In this order: the rules' words are the rules' numbers.
        private static final String WORDS =
            "refl trans comb abs beta assume eqmp deduct inst eta var const def thm all no by try rep left right in once then else ";
        private static final String SIGNS = ";:=>.()\\";
        static final int WORD_BETA = 4;
        static final int WORD_ETA = 9;
        static final int WORD_VAR = 10;
        static final int WORD_CONST = 11;
        static final int WORD_DEF = 12;
        static final int WORD_THM = 13;
        static final int WORD_ALL = 14;
        static final int WORD_NO = 15;
        static final int WORD_BY = 16;
        static final int WORD_TRY = 17;
        static final int WORD_REP = 18;
        static final int WORD_LEFT = 19;
        static final int WORD_RIGHT = 20;
        static final int WORD_IN = 21;
        static final int WORD_ONCE = 22;
        static final int WORD_THEN = 23;
        static final int WORD_ELSE = 24;
        private static final int WORD_COUNT = 25;

        private static final int NAME_LETTERS = 6;
        private static final int NAME_BASE = 27;
        static final int NAME_O = 15 * 14348907;
        static final int NAME_I = 9 * 14348907;

        private final int[] tape;
        private final int[] words = new int[WORD_COUNT];
        private final int[] kinds = new int[TAPE_BYTES + 1];
        private final int[] places = new int[TAPE_BYTES + 1];
        private final int[] values = new int[TAPE_BYTES + 1];
        private int count;
        private int at;
        private int kind;
        private int place;
        private int value;
        private int fault;
        private int faultPlace;

        Tokens(int[] tape) {
            this.tape = tape;
            int filled = 0;
            int code = 0;
            int length = 0;
            for (int i = 0; i < WORDS.length(); i++) {
                int letter = WORDS.charAt(i);
                if (isLetter(letter)) {
                    code = code * NAME_BASE + letter - 96;
                    length++;
                } else if (filled < words.length) {
                    words[filled] = padded(code, length);
                    filled++;
                    code = 0;
                    length = 0;
                }
            }
        }

        /** Parts the first n bytes into tokens; what begins none is the last one, BAD. */
        void start(int n) {
            int end = Math.min(n, tape.length);
            count = 0;
            boolean good = true;
            for (int i = 0; i < end && good; i++) {
                int sign = tape[i];
                if (isLetter(sign)) {
                    int length = lettersFrom(i, end);
                    good = length <= NAME_LETTERS;
                    addName(i, good ? length : 0);
                    i = Math.max(i, i + length - 1);
                } else if (sign != ' ') {
                    good = SIGNS.indexOf((char) sign) >= 0;
                    add(good ? sign : BAD, i, NONE);
                }
            }
            add(END, end, NONE);
            fault = 0;
            faultPlace = NONE;
            at = NONE;
            advance();
        }

        private int lettersFrom(int from, int end) {
            int to = from;
            while (to < end && isLetter(tape[to])) {
                to++;
            }
            return to - from;
        }

        private void addName(int from, int length) {
            int code = 0;
            for (int i = from; i < from + length && i < tape.length; i++) {
                code = code * NAME_BASE + tape[i] - 96;
            }
            int name = padded(code, length);
            for (int i = 0; i < words.length; i++) {
                if (words[i] == name) {
                    add(WORD, from, i);
                    return;
                }
            }
            add(length > 0 ? NAME : BAD, from, name);
        }

        private void add(int ofKind, int where, int what) {
            if (count < kinds.length) {
                kinds[count] = ofKind;
                places[count] = where;
                values[count] = what;
                count++;
            }
        }

        void advance() {
            if (at + 1 < count) {
                at++;
                kind = kinds[at];
                place = places[at];
                value = values[at];
            }
        }

        /** The FAULT; as nothing goes on with what is BAD, the reading stops with it. */
        int refuse(int number, int where) {
            if (fault == 0) {
                fault = number;
                faultPlace = where;
            }
            kind = BAD;
            return NONE;
        }

        /** The number of the word here; NONE if none is. */
        int wordHere() {
            return kind == WORD ? value : NONE;
        }

        /** The NAME here; NONE if none is. */
        int nameHere() {
            return kind == NAME ? value : NONE;
        }

        boolean take(int which) {
            if (kind != which) {
                refuse(FAULT_FORM, place);
                return false;
            }
            advance();
            return true;
        }

        void takeEnd() {
            if (kind != END) {
                refuse(FAULT_FORM, place);
            }
        }

        /** The NAME that alone lies in the first n bytes; NONE if none does. */
        int onlyName(int n) {
            start(n);
            int name = nameHere();
            advance();
            return kind == END ? name : NONE;
        }

        private static boolean isLetter(int sign) {
            return sign >= 'a' && sign <= 'z';
        }

        /** So filled up, names are ordered as numbers as they are byte by byte. */
        private static int padded(int code, int length) {
            int filled = code;
            for (int i = length; i < NAME_LETTERS; i++) {
                filled *= NAME_BASE;
            }
            return filled;
        }
    }

    /** Reads TYPES and TERMS. */
    private static final class TermReader {
        static final int ANY = 0;
        static final int TRUE_OR_FALSE = 1;
        static final int CLOSED = 2;

        private final Tokens tokens;
        private final Arena arena;
        private final Terms terms;
        private final Told told;
        private final int[] boundNames = new int[MOST_NESTED];
        private final int[] boundTypes = new int[MOST_NESTED];
        private int boundCount;
        private final int[] atoms = new int[TAPE_BYTES];
        private int atomCount;

        TermReader(Tokens tokens, Arena arena, Terms terms, Told told) {
            this.tokens = tokens;
            this.arena = arena;
            this.terms = terms;
            this.told = told;
        }

        /** A TERM that stands in no other one. */
        int readWhole(int need) {
            int first = tokens.place;
            boundCount = 0;
            atomCount = 0;
            int t = readTermAt(0);
            if (t < 0) {
                return NONE;
            }
            if (need == TRUE_OR_FALSE && arena.typeOf(t) != Arena.TRUTH
                || need == CLOSED && arena.varsOf(t) != 0) {
                return tokens.refuse(FAULT_TYPE, first);
            }
            if (arena.sizeOf(t) > MOST_SIZE) {
                return tokens.refuse(FAULT_MANY, first);
            }
            return t;
        }

        private int readTermAt(int nested) {
            int left = readSide(nested);
            if (left < 0 || tokens.kind != '=') {
                return left;
            }
            tokens.advance();
            int first = tokens.place;
            int right = readSide(nested);
            if (right < 0) {
                return NONE;
            }
            if (arena.typeOf(left) != arena.typeOf(right)) {
                return tokens.refuse(FAULT_TYPE, first);
            }
            return terms.equation(left, right);
        }

        private int readSide(int nested) {
            int f = readPiece(nested);
            for (int i = 0; i < TAPE_BYTES && f >= 0 && beginsPiece(); i++) {
                int first = tokens.place;
                int x = readPiece(nested);
                if (x < 0) {
                    return NONE;
                }
                if (!terms.fits(f, x)) {
                    return tokens.refuse(FAULT_TYPE, first);
                }
                f = terms.apply(f, x);
            }
            return f;
        }

        private boolean beginsPiece() {
            return tokens.kind == Tokens.NAME || tokens.kind == '(' || tokens.kind == '\\';
        }

        private int readPiece(int nested) {
            if (tokens.kind == Tokens.NAME) {
                return readNamed();
            }
            if (!beginsPiece()) {
                return tokens.refuse(FAULT_FORM, tokens.place);
            }
            if (nested >= MOST_NESTED) {
                return tokens.refuse(FAULT_MANY, tokens.place);
            }
            if (tokens.kind == '\\') {
                return readLambda(nested + 1);
            }
            tokens.advance();
            int t = readTermAt(nested + 1);
            return t >= 0 && tokens.take(')') ? t : NONE;
        }

        private int readNamed() {
            int name = tokens.nameHere();
            for (int i = boundCount - 1; i >= 0; i--) {
                if (boundNames[i] == name) {
                    tokens.advance();
                    return arena.node(Arena.INDEX, boundTypes[i], boundCount - 1 - i, boundTypes[i]);
                }
            }
            int v = told.varNamed(name);
            int c = told.constNamed(name);
            if (v < 0 && c < 0) {
                return tokens.refuse(FAULT_NAME, tokens.place);
            }
            tokens.advance();
            int type = v >= 0 ? told.varType(v) : told.constType(c);
            return v >= 0 ? arena.node(Arena.VAR, type, v, type)
                : arena.node(Arena.CONST, type, c, type);
        }

        private int readLambda(int nested) {
            tokens.advance();
            int name = tokens.nameHere();
            if (!tokens.take(Tokens.NAME) || !tokens.take(':')) {
                return NONE;
            }
            int type = readType(nested, true);
            if (type < 0 || !tokens.take('.') || boundCount >= MOST_NESTED) {
                return NONE;
            }
            boundNames[boundCount] = name;
            boundTypes[boundCount] = type;
            boundCount++;
            int body = readTermAt(nested);
            boundCount--;
            return body < 0 ? NONE : terms.lambda(type, body);
        }

        /** The atoms wait in a row, for > is put together from the right. */
        int readType(int nested, boolean whole) {
            int first = tokens.place;
            int base = whole ? 0 : atomCount;
            atomCount = base;
            boolean more = true;
            while (more && atomCount < TAPE_BYTES) {
                int atom = readAtom(nested);
                if (atom < 0) {
                    return NONE;
                }
                atoms[atomCount] = atom;
                atomCount++;
                more = tokens.kind == '>';
                if (more) {
                    tokens.advance();
                }
            }
            int type = atomCount > 0 ? atoms[atomCount - 1] : NONE;
            for (int i = atomCount - 2; i >= base; i--) {
                type = arena.node(Arena.ARROW, atoms[i], type, 0);
            }
            atomCount = base;
            if (whole && arena.sizeOf(type) > MOST_LETTERS) {
                return tokens.refuse(FAULT_MANY, first);
            }
            return type;
        }

        private int readAtom(int nested) {
            int name = tokens.nameHere();
            if (name == Tokens.NAME_O) {
                tokens.advance();
                return Arena.TRUTH;
            }
            if (name == Tokens.NAME_I) {
                tokens.advance();
                return Arena.THING;
            }
            if (tokens.kind != '(') {
                return tokens.refuse(FAULT_FORM, tokens.place);
            }
            if (nested >= MOST_NESTED) {
                return tokens.refuse(FAULT_MANY, tokens.place);
            }
            tokens.advance();
            int type = readType(nested + 1, false);
            return type >= 0 && tokens.take(')') ? type : NONE;
        }
    }

    /** Reads a THEORY: each LINE is told as it ends, so that those behind it may use it. */
    private static final class LineReader {
        private final Tokens tokens;
        private final TermReader termReader;
        private final Arena arena;
        private final Terms terms;
        private final Told told;
        private final Kernel kernel;

        LineReader(Tokens tokens, TermReader termReader, Arena arena, Terms terms, Told told,
            Kernel kernel) {
            this.tokens = tokens;
            this.termReader = termReader;
            this.arena = arena;
            this.terms = terms;
            this.told = told;
            this.kernel = kernel;
        }

        void readLines() {
            for (int i = 0; i < TAPE_BYTES; i++) {
                switch (tokens.wordHere()) {
                    case Tokens.WORD_VAR:
                        readVar();
                        break;
                    case Tokens.WORD_CONST:
                        readConst();
                        break;
                    case Tokens.WORD_DEF:
                        readDef();
                        break;
                    case Tokens.WORD_THM:
                        readThm();
                        break;
                    default:
                        tokens.refuse(FAULT_FORM, tokens.place);
                        break;
                }
                if (tokens.fault != 0 || tokens.kind == Tokens.END || !tokens.take(';')) {
                    return;
                }
            }
        }

        private void readVar() {
            if (told.varCount >= MOST_VARS) {
                tokens.refuse(FAULT_MANY, tokens.place);
                return;
            }
            int name = readNewName();
            int type = readTypeOf(name);
            if (type >= 0) {
                told.addVar(name, type);
            }
        }

        private void readConst() {
            if (told.constCount >= MOST_CONSTS) {
                tokens.refuse(FAULT_MANY, tokens.place);
                return;
            }
            int name = readNewName();
            int type = readTypeOf(name);
            if (type >= 0) {
                told.addConst(name, type, NONE);
            }
        }

        /** The NAME behind the LINE's first word; NONE if it isn't new. */
        private int readNewName() {
            tokens.advance();
            int name = tokens.nameHere();
            if (name >= 0 && told.isTold(name)) {
                return tokens.refuse(FAULT_NAME, tokens.place);
            }
            return tokens.take(Tokens.NAME) ? name : NONE;
        }

        private int readTypeOf(int name) {
            return name >= 0 && tokens.take(':') ? termReader.readType(0, true) : NONE;
        }

        private void readDef() {
            if (told.constCount >= MOST_CONSTS || told.theoremCount >= MOST_THEOREMS) {
                tokens.refuse(FAULT_MANY, tokens.place);
                return;
            }
            int name = readNewName();
            if (name < 0 || !tokens.take('=')) {
                return;
            }
            int t = termReader.readWhole(TermReader.CLOSED);
            if (t < 0) {
                return;
            }
            int c = told.addConst(name, arena.typeOf(t), told.theoremCount);
            int concl = terms.equation(told.constNode(c), t);
            int theorem = arena.node(Arena.THEOREM, Arena.NO_HYPS, concl, 0);
            told.addTheorem(theorem, name, BY_DEF);
        }

        private void readThm() {
            if (told.theoremCount >= MOST_THEOREMS) {
                tokens.refuse(FAULT_MANY, tokens.place);
                return;
            }
            int name = readNewName();
            if (name < 0) {
                return;
            }
            int place = tokens.place;
            int rule = tokens.wordHere();
            if (rule < 0 || rule >= RULES) {
                tokens.refuse(FAULT_FORM, place);
                return;
            }
            tokens.advance();
            boolean ofTerm = rule == REFL || rule == BETA || rule == ASSUME || rule == ETA;
            boolean ofVar = rule == ABS || rule == INST;
            int bound = rule == ABS ? readVarName() : NONE;
            int one = ofTerm ? NONE : readTheoremName();
            int replaced = rule == INST ? readVarName() : NONE;
            int t = NONE;
            if (ofTerm || rule == INST) {
                t = termReader.readWhole(rule == ASSUME ? TermReader.TRUE_OR_FALSE : TermReader.ANY);
            }
            int other = ofTerm || ofVar ? NONE : readTheoremName();
            if (tokens.fault != 0) {
                return;
            }
            int made = ofTerm ? makeOfTerm(rule, t)
                : rule == ABS ? kernel.makeAbs(bound, one)
                : rule == INST ? kernel.makeInst(one, replaced, t)
                : makeOfTheorems(rule, one, other);
            if (made < 0) {
                tokens.refuse(made == NOT_SO ? FAULT_RULE : FAULT_MANY, place);
                return;
            }
            told.addTheorem(made, name, rule);
        }

        private int makeOfTerm(int rule, int t) {
            switch (rule) {
                case REFL:
                    return kernel.makeRefl(t);
                case BETA:
                    return kernel.makeBeta(t);
                case ETA:
                    return kernel.makeEta(t);
                default:
                    return kernel.makeAssume(t);
            }
        }

        private int makeOfTheorems(int rule, int one, int other) {
            switch (rule) {
                case TRANS:
                    return kernel.makeTrans(one, other);
                case COMB:
                    return kernel.makeComb(one, other);
                case EQMP:
                    return kernel.makeEqmp(one, other);
                default:
                    return kernel.makeDeduct(one, other);
            }
        }

        private int readTheoremName() {
            int t = told.theoremNamed(tokens.nameHere());
            return takeTold(t) ? told.theoremNode(t) : NONE;
        }

        private int readVarName() {
            int v = told.varNamed(tokens.nameHere());
            return takeTold(v) ? told.varNode(v) : NONE;
        }

        private boolean takeTold(int number) {
            if (tokens.kind == Tokens.NAME && number < 0) {
                tokens.refuse(FAULT_NAME, tokens.place);
            }
            return tokens.take(Tokens.NAME);
        }
    }

    /** Reads CONVS and keeps the one read last as nodes of its own. */
    private static final class Conv {
        static final int ALL = 0;
        static final int NO = 1;
        static final int BY_BETA = 2;
        static final int BY_ETA = 3;
        static final int DEF = 4;
        static final int BY = 5;
        static final int TRY = 6;
        static final int REP = 7;
        static final int LEFT = 8;
        static final int RIGHT = 9;
        static final int IN = 10;
        static final int ONCE = 11;
        static final int THEN = 12;
        static final int ELSE = 13;

        private final Tokens tokens;
        private final Told told;
        private final int[] ops = new int[TAPE_BYTES];
        private final int[] firsts = new int[TAPE_BYTES];
        private final int[] seconds = new int[TAPE_BYTES];
        private int count;

        Conv(Tokens tokens, Told told) {
            this.tokens = tokens;
            this.told = told;
        }

        int opOf(int node) {
            return node >= 0 && node < count ? ops[node] : NO;
        }

        int firstOf(int node) {
            return node >= 0 && node < count ? firsts[node] : NONE;
        }

        int secondOf(int node) {
            return node >= 0 && node < count ? seconds[node] : NONE;
        }

        private int add(int op, int first, int second) {
            if (count >= TAPE_BYTES) {
                return tokens.refuse(FAULT_MANY, tokens.place);
            }
            ops[count] = op;
            firsts[count] = first;
            seconds[count] = second;
            count++;
            return count - 1;
        }

        int tellNormal() {
            count = 0;
            int steps = add(ELSE, add(BY_BETA, NONE, NONE), add(BY_ETA, NONE, NONE));
            return add(REP, add(ONCE, add(ELSE, steps, add(DEF, NONE, NONE)), NONE), NONE);
        }

        int tellUnfold() {
            count = 0;
            return add(REP, add(ONCE, add(DEF, NONE, NONE), NONE), NONE);
        }

        /** The node of the CONV that begins here; below 0 after a FAULT. */
        int read() {
            count = 0;
            return readConv(0);
        }

        private int readConv(int nested) {
            int all = readStep(nested);
            for (int i = 0; i < TAPE_BYTES && all >= 0 && tokens.wordHere() == Tokens.WORD_THEN; i++) {
                tokens.advance();
                int next = readStep(nested);
                all = next < 0 ? NONE : add(THEN, all, next);
            }
            return all;
        }

        private int readStep(int nested) {
            int all = readFirst(nested);
            for (int i = 0; i < TAPE_BYTES && all >= 0 && tokens.wordHere() == Tokens.WORD_ELSE; i++) {
                tokens.advance();
                int next = readFirst(nested);
                all = next < 0 ? NONE : add(ELSE, all, next);
            }
            return all;
        }

        private int readFirst(int nested) {
            int op = opOfWord(tokens.wordHere());
            boolean bracket = tokens.kind == '(';
            if (op < 0 && !bracket) {
                return tokens.refuse(FAULT_FORM, tokens.place);
            }
            if (nested >= MOST_NESTED && (bracket || op >= TRY)) {
                return tokens.refuse(FAULT_MANY, tokens.place);
            }
            tokens.advance();
            if (bracket) {
                int inner = readConv(nested + 1);
                return inner >= 0 && tokens.take(')') ? inner : NONE;
            }
            if (op == BY) {
                return readBy();
            }
            if (op < TRY) {
                return add(op, NONE, NONE);
            }
            int first = readFirst(nested + 1);
            return first < 0 ? NONE : add(op, first, NONE);
        }

        private int readBy() {
            int name = tokens.nameHere();
            int t = told.theoremNamed(name);
            if (name >= 0 && t < 0) {
                return tokens.refuse(FAULT_NAME, tokens.place);
            }
            return tokens.take(Tokens.NAME) ? add(BY, t, NONE) : NONE;
        }

        private static int opOfWord(int word) {
            switch (word) {
                case Tokens.WORD_ALL:
                    return ALL;
                case Tokens.WORD_NO:
                    return NO;
                case Tokens.WORD_BETA:
                    return BY_BETA;
                case Tokens.WORD_ETA:
                    return BY_ETA;
                case Tokens.WORD_DEF:
                    return DEF;
                case Tokens.WORD_BY:
                    return BY;
                case Tokens.WORD_TRY:
                    return TRY;
                case Tokens.WORD_REP:
                    return REP;
                case Tokens.WORD_LEFT:
                    return LEFT;
                case Tokens.WORD_RIGHT:
                    return RIGHT;
                case Tokens.WORD_IN:
                    return IN;
                case Tokens.WORD_ONCE:
                    return ONCE;
                default:
                    return NONE;
            }
        }
    }

    /**
     * Runs CONVS. What waits for a part of it to answer stands in frames of its own, not in calls
     * within calls: once goes down a whole term, and again within itself.
     */
    private static final class Engine {
        private static final int FIRST_ROOM = 64;
        private static final int MOST_STEPS = 100000000;

        private final Arena arena;
        private final Terms terms;
        private final Told told;
        private final Kernel kernel;
        private final Conv conv;
        private int[] nodes = new int[FIRST_ROOM];
        private int[] subjects = new int[FIRST_ROOM];
        private int[] states = new int[FIRST_ROOM];
        private int[] kept = new int[FIRST_ROOM];
        private int top;
        private int opened;
        private final int[] found = new int[MOST_VARS];

        Engine(Arena arena, Terms terms, Told told, Kernel kernel, Conv conv) {
            this.arena = arena;
            this.terms = terms;
            this.told = told;
            this.kernel = kernel;
            this.conv = conv;
        }

        /** The THEOREM that the CONV gives of the TERM, NOT_SO if it FAILS, or NO_ROOM. */
        int run(int first, int t) {
            top = 0;
            opened = 0;
            push(first, t);
            int answer = NOT_SO;
            for (int i = 0; i < MOST_STEPS && top > 0 && answer != NO_ROOM; i++) {
                int frame = top - 1;
                switch (conv.opOf(nodes[frame])) {
                    case Conv.TRY:
                        answer = stepTry(frame, answer);
                        break;
                    case Conv.REP:
                        answer = stepRep(frame, answer);
                        break;
                    case Conv.LEFT:
                        answer = stepLeft(frame, answer);
                        break;
                    case Conv.RIGHT:
                        answer = stepRight(frame, answer);
                        break;
                    case Conv.IN:
                        answer = stepIn(frame, answer);
                        break;
                    case Conv.ONCE:
                        answer = stepOnce(frame, answer);
                        break;
                    case Conv.THEN:
                        answer = stepThen(frame, answer);
                        break;
                    case Conv.ELSE:
                        answer = stepElse(frame, answer);
                        break;
                    default:
                        answer = atOnce(nodes[frame], subjects[frame]);
                        top--;
                        break;
                }
            }
            return top > 0 ? NO_ROOM : answer;
        }

        /** What those answer that have no CONV within them. */
        private int atOnce(int node, int t) {
            switch (conv.opOf(node)) {
                case Conv.ALL:
                    return kernel.makeRefl(t);
                case Conv.BY_BETA:
                    return kernel.makeBeta(t);
                case Conv.BY_ETA:
                    return kernel.makeEta(t);
                case Conv.DEF:
                    return definition(t);
                case Conv.BY:
                    return byTheorem(told.theoremNode(conv.firstOf(node)), t);
                default:
                    return NOT_SO;
            }
        }

        private void push(int node, int t) {
            if (top >= nodes.length) {
                int room = nodes.length * 2;
                nodes = Arrays.copyOf(nodes, room);
                subjects = Arrays.copyOf(subjects, room);
                states = Arrays.copyOf(states, room);
                kept = Arrays.copyOf(kept, room);
            }
            nodes[top] = node;
            subjects[top] = t;
            states[top] = 0;
            kept[top] = NONE;
            top++;
        }

        /** The frame waits in the state until the CONV has answered of the TERM. */
        private int ask(int frame, int state, int node, int t) {
            states[frame] = state;
            push(node, t);
            return NOT_SO;
        }

        private int done(int answer) {
            top--;
            return answer;
        }

        private int definition(int t) {
            int theorem = arena.kindOf(t) == Arena.CONST ? told.definitionOf(arena.rightOf(t)) : NONE;
            return theorem < 0 ? NOT_SO : told.theoremNode(theorem);
        }

        private int stepThen(int frame, int answer) {
            if (states[frame] == 0) {
                return ask(frame, 1, conv.firstOf(nodes[frame]), subjects[frame]);
            }
            if (answer < 0) {
                return done(answer);
            }
            if (states[frame] == 1) {
                kept[frame] = answer;
                return ask(frame, 2, conv.secondOf(nodes[frame]), kernel.rightOf(answer));
            }
            return done(kernel.makeTrans(kept[frame], answer));
        }

        private int stepElse(int frame, int answer) {
            if (states[frame] == 0) {
                return ask(frame, 1, conv.firstOf(nodes[frame]), subjects[frame]);
            }
            if (states[frame] == 1 && answer < 0) {
                return ask(frame, 2, conv.secondOf(nodes[frame]), subjects[frame]);
            }
            return done(answer);
        }

        private int stepTry(int frame, int answer) {
            if (states[frame] == 0) {
                return ask(frame, 1, conv.firstOf(nodes[frame]), subjects[frame]);
            }
            return done(answer < 0 ? kernel.makeRefl(subjects[frame]) : answer);
        }

        private int stepRep(int frame, int answer) {
            if (states[frame] == 0) {
                return ask(frame, 1, conv.firstOf(nodes[frame]), subjects[frame]);
            }
            int before = kept[frame];
            if (answer < 0) {
                return done(before < 0 ? kernel.makeRefl(subjects[frame]) : before);
            }
            int so = before < 0 ? answer : kernel.makeTrans(before, answer);
            if (so < 0) {
                return done(so);
            }
            kept[frame] = so;
            return ask(frame, 1, conv.firstOf(nodes[frame]), kernel.rightOf(so));
        }

        private int stepLeft(int frame, int answer) {
            if (states[frame] == 0) {
                return goLeft(frame, 1, conv.firstOf(nodes[frame]));
            }
            return endLeft(frame, answer);
        }

        private int stepRight(int frame, int answer) {
            if (states[frame] == 0) {
                return goRight(frame, 1, conv.firstOf(nodes[frame]));
            }
            return done(kernel.makeComb(kept[frame], answer));
        }

        private int stepIn(int frame, int answer) {
            if (states[frame] == 0) {
                return goIn(frame, 1, conv.firstOf(nodes[frame]));
            }
            return endIn(frame, answer);
        }

        private int stepOnce(int frame, int answer) {
            int node = nodes[frame];
            switch (states[frame]) {
                case 0:
                    return ask(frame, 1, conv.firstOf(node), subjects[frame]);
                case 1:
                    if (answer >= 0) {
                        return done(answer);
                    }
                    if (arena.kindOf(subjects[frame]) == Arena.LAMBDA) {
                        return goIn(frame, 4, node);
                    }
                    return goLeft(frame, 2, node);
                case 2:
                    return answer < 0 ? goRight(frame, 3, node) : endLeft(frame, answer);
                case 3:
                    return done(kernel.makeComb(kept[frame], answer));
                default:
                    return endIn(frame, answer);
            }
        }

        private int goLeft(int frame, int state, int node) {
            if (arena.kindOf(subjects[frame]) != Arena.APPLIED) {
                return done(NOT_SO);
            }
            return ask(frame, state, node, arena.leftOf(subjects[frame]));
        }

        private int endLeft(int frame, int answer) {
            if (answer < 0) {
                return done(answer);
            }
            int beside = kernel.makeRefl(arena.rightOf(subjects[frame]));
            return done(kernel.makeComb(answer, beside));
        }

        private int goRight(int frame, int state, int node) {
            if (arena.kindOf(subjects[frame]) != Arena.APPLIED) {
                return done(NOT_SO);
            }
            kept[frame] = kernel.makeRefl(arena.leftOf(subjects[frame]));
            if (kept[frame] < 0) {
                return done(kept[frame]);
            }
            return ask(frame, state, node, arena.rightOf(subjects[frame]));
        }

        private int goIn(int frame, int state, int node) {
            int t = subjects[frame];
            if (arena.kindOf(t) != Arena.LAMBDA) {
                return done(NOT_SO);
            }
            if (!kernel.spend()) {
                return done(NO_ROOM);
            }
            // Those that stand open at once have numbers of their own; no other VAR has one of them.
            kept[frame] = terms.variable(MOST_VARS + opened, arena.leftOf(t));
            opened++;
            return ask(frame, state, node, terms.fill(arena.rightOf(t), 0, kept[frame], 0));
        }

        private int endIn(int frame, int answer) {
            opened--;
            return done(kernel.makeAbs(kept[frame], answer));
        }

        private int byTheorem(int theorem, int t) {
            if (!terms.isEquation(arena.rightOf(theorem))) {
                return NOT_SO;
            }
            int left = kernel.leftOf(theorem);
            int free = arena.varsOf(left) & ~arena.varsOf(arena.leftOf(theorem));
            Arrays.fill(found, NONE);
            if (!matches(left, t, free, 0)) {
                return NOT_SO;
            }
            int so = theorem;
            for (int v = 0; v < MOST_VARS; v++) {
                if ((free & Arena.varBit(v)) != 0) {
                    so = kernel.makeInst(so, told.varNode(v), found[v]);
                }
            }
            if (so < 0) {
                return so;
            }
            return kernel.leftOf(so) == t ? so : NOT_SO;
        }

        private boolean matches(int pattern, int t, int free, int depth) {
            if ((arena.varsOf(pattern) & free) == 0 || depth > DEEPEST) {
                return pattern == t;
            }
            int kind = arena.kindOf(pattern);
            if (kind == Arena.VAR) {
                return isFound(arena.rightOf(pattern), arena.typeOf(pattern), t);
            }
            if (kind != arena.kindOf(t)) {
                return false;
            }
            int left = arena.leftOf(pattern);
            boolean begins = kind == Arena.LAMBDA
                ? left == arena.leftOf(t)
                : matches(left, arena.leftOf(t), free, depth + 1);
            return begins && matches(arena.rightOf(pattern), arena.rightOf(t), free, depth + 1);
        }

        private boolean isFound(int v, int type, int t) {
            if (arena.typeOf(t) != type || arena.looseOf(t) > 0 || v < 0 || v >= MOST_VARS) {
                return false;
            }
            if (found[v] < 0) {
                found[v] = t;
            }
            return found[v] == t;
        }
    }

    /** What was written last. */
    private static final class Writer {
        // The longest: the TYPE of twelve \ round a CONST by def, whose TERM is twelve \ round
        // another such CONST, and so on: below 1100 letters, each with at most three signs more.
        private static final int ROOM = 4608;
        private static final int TOP_POWER = 14348907;

        private final Arena arena;
        private final Told told;
        private final int[] row = new int[ROOM];
        private int length;

        Writer(Arena arena, Told told) {
            this.arena = arena;
            this.told = told;
        }

        void clear() {
            length = 0;
        }

        int byteAt(int k) {
            return k >= 0 && k < length ? row[k] : -2;
        }

        private void put(int sign) {
            if (length < row.length) {
                row[length] = sign;
                length++;
            }
        }

        /** Goes along the right and calls itself on the left alone, where types are short. */
        void putType(int type, int depth) {
            int rest = type;
            int open = 0;
            for (int i = 0; i < ROOM && depth <= DEEPEST && arena.kindOf(rest) == Arena.ARROW; i++) {
                put('(');
                putType(arena.leftOf(rest), depth + 1);
                put('>');
                rest = arena.rightOf(rest);
                open++;
            }
            put(arena.rightOf(rest));
            for (int i = 0; i < open; i++) {
                put(')');
            }
        }

        void putTerm(int t, int around, int depth) {
            int left = arena.leftOf(t);
            int right = arena.rightOf(t);
            switch (depth > DEEPEST ? Arena.NOTHING : arena.kindOf(t)) {
                case Arena.VAR:
                case Arena.CONST:
                    putName(told.nameOf(arena.kindOf(t), right));
                    break;
                case Arena.EQUAL:
                    put('=');
                    break;
                case Arena.INDEX:
                    putNumber(around - 1 - right);
                    break;
                case Arena.APPLIED:
                    put('(');
                    putTerm(left, around, depth + 1);
                    put(' ');
                    putTerm(right, around, depth + 1);
                    put(')');
                    break;
                case Arena.LAMBDA:
                    put('\\');
                    putType(left, 0);
                    put('.');
                    putTerm(right, around + 1, depth + 1);
                    break;
                default:
                    break;
            }
        }

        private void putName(int name) {
            int rest = name;
            for (int power = TOP_POWER; power > 0 && rest > 0; power /= 27) {
                put('a' - 1 + rest / power);
                rest %= power;
            }
        }

        private void putNumber(int number) {
            if (number >= 100) {
                put('0' + number / 100);
            }
            if (number >= 10) {
                put('0' + number / 10 % 10);
            }
            put('0' + number % 10);
        }
    }
}
