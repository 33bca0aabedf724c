/** Two BUILDS of small METHODS: run, held against each other, proved pair by pair. */
public final class EqualMethods {
    public static final int NONE = -1, UNKNOWN = -101, OUTSIDE = -102, STATE = -103, ROOM = -104;

    private static final int MOST_METHODS = 6;
    private static final int MOST_LINES = 24;
    private static final int MOST_PAIRS = 6;
    private static final int REGISTERS = 6;
    private static final int PORTS = 4;
    private static final int GROUPS = 4;

    private static final int MOST_OPS = 100;
    private static final int MOST_TELLS = 40;
    private static final int MOST_UNDER_WAY = 8;
    private static final int MOST_CALLINGS = 2;
    // A step begins an OP or leaves a METHOD that one of these OPS began, so no RUN needs as many.
    private static final int MOST_STEPS = 1000;

    private static final int SET = 0, COPY = 1, ADD = 2, LESS = 3, TIMES = 4, OVER = 5, REST = 6, AND = 7;
    private static final int XOR = 8, BELOW = 9, SKIP = 10, GO = 11, TELL = 12, CALL = 13, RETURN = 14, THROW = 15;

    private static final int FREE = 0, A_REGISTER = 1, A_NUMBER = 2, A_LINE = 3, A_PORT = 4, A_METHOD = 5, A_KIND = 6;
    /** What an OP's a, b and c are, three to an OP. */
    private static final int[] OPERANDS = {
        A_REGISTER, A_NUMBER, FREE,
        A_REGISTER, A_REGISTER, FREE,
        A_REGISTER, A_REGISTER, A_REGISTER,
        A_REGISTER, A_REGISTER, A_REGISTER,
        A_REGISTER, A_REGISTER, A_REGISTER,
        A_REGISTER, A_REGISTER, A_REGISTER,
        A_REGISTER, A_REGISTER, A_REGISTER,
        A_REGISTER, A_REGISTER, A_REGISTER,
        A_REGISTER, A_REGISTER, A_REGISTER,
        A_REGISTER, A_REGISTER, A_REGISTER,
        A_REGISTER, A_LINE, FREE,
        A_LINE, FREE, FREE,
        A_PORT, A_REGISTER, FREE,
        A_REGISTER, A_METHOD, A_REGISTER,
        A_REGISTER, FREE, FREE,
        A_KIND, A_REGISTER, FREE,
    };

    private static final int LOWEST_KIND = 2, HIGHEST_KIND = 7;
    private static final int KIND_BY_ZERO = 1, KIND_NOT_THERE = 8, KIND_ANSWERED = 9;

    /** How a RUN or a WALK ends; a WALK that ends SPENT is OPEN. */
    private static final int RETURNED = 0, THREW = 1, SPENT = 2;

    /** What holding and proving answer. */
    private static final int UNLIKE = 0, ALIKE = 1, UNDECIDED = 2;

    /** Every RENAMING as find() answers it, in the document's order. */
    private static final int[] RENAMINGS = {
        123, 132, 213, 231, 312, 321,
        1023, 1032, 1203, 1230, 1302, 1320,
        2013, 2031, 2103, 2130, 2301, 2310,
        3012, 3021, 3102, 3120, 3201, 3210,
    };
    private static final int ALL_RENAMINGS = (1 << 24) - 1;

    private final int bits;
    private final int mask;
    private final Build build0 = new Build();
    private final Build build1 = new Build();
    private final Ports ports = new Ports();
    private final Ports tried = new Ports();
    private final Pairs pairs = new Pairs();
    private final Proof proof = new Proof();
    // Apart from the others, so that holding and proving leave the latest run() as it is.
    private final Machine shown;
    private final Machine run0;
    private final Machine run1;
    private final Machine walk0;
    private final Machine walk1;
    private int unlikeX = NONE;
    private int unlikeY = NONE;
    private int firstX = NONE;
    private int firstY = NONE;

    public EqualMethods(int bits) {
        this.bits = (bits & 1) != 0 ? 3 : 2;
        this.mask = (1 << this.bits) - 1;
        this.shown = new Machine(build0, mask, false);
        this.run0 = new Machine(build0, mask, false);
        this.run1 = new Machine(build1, mask, false);
        this.walk0 = new Machine(build0, mask, true);
        this.walk1 = new Machine(build1, mask, true);
    }

    public int method(int build) {
        if (!within(build, 0, 1)) {
            return UNKNOWN;
        }
        Build chosen = buildOf(build);
        return chosen.methods == MOST_METHODS ? ROOM : chosen.addMethod();
    }

    public int op(int build, int method, int op, int a, int b, int c) {
        if (!isMethod(build, method)) {
            return UNKNOWN;
        }
        if (!within(op, SET, THROW) || !fits(op, 0, a) || !fits(op, 1, b) || !fits(op, 2, c)) {
            return OUTSIDE;
        }
        Build chosen = buildOf(build);
        return chosen.sizes[method] == MOST_LINES ? ROOM : chosen.addOp(method, op, a, b, c);
    }

    public int clear(int build, int method) {
        return isMethod(build, method) ? buildOf(build).removeOps(method) : UNKNOWN;
    }

    public int run(int build, int method, int x, int y) {
        if (!isMethod(build, method)) {
            return UNKNOWN;
        }
        if (!within(x, 0, mask) || !within(y, 0, mask)) {
            return OUTSIDE;
        }
        shown.turnTo(buildOf(build));
        shown.go(method, x, y);
        return shown.trace.end;
    }

    public int ran(int what) {
        Trace trace = shown.trace;
        switch (what) {
            case 0: return trace.number;
            case 1: return trace.kind;
            case 2: return trace.ops;
            case 3: return trace.tells;
            case 4: return trace.deepest;
            default: return UNKNOWN;
        }
    }

    public int told(int i, int what) {
        if (!within(what, 0, 1)) {
            return UNKNOWN;
        }
        Trace trace = shown.trace;
        if (!within(i, 0, trace.tells - 1)) {
            return NONE;
        }
        return what == 0 ? trace.tellPorts[i] : trace.tellNumbers[i];
    }

    public int rename(int p, int q) {
        if (!isPort(p) || !isPort(q)) {
            return UNKNOWN;
        }
        return ports.swapIn(p, q);
    }

    public int group(int p, int g) {
        if (!isPort(p)) {
            return UNKNOWN;
        }
        if (!within(g, 0, GROUPS - 1)) {
            return OUTSIDE;
        }
        int was = ports.groups[p];
        ports.groups[p] = g;
        return was;
    }

    public int hold(int a, int b) {
        if (!isPair(a, b)) {
            return UNKNOWN;
        }
        int answer = held(a, b);
        firstX = answer == UNLIKE ? unlikeX : NONE;
        firstY = answer == UNLIKE ? unlikeY : NONE;
        return answer;
    }

    public int first(int what) {
        switch (what) {
            case 0: return firstX;
            case 1: return firstY;
            default: return UNKNOWN;
        }
    }

    public int match(int a) {
        if (!build0.has(a)) {
            return UNKNOWN;
        }
        for (int b = 0; b < build1.methods; b++) {
            if (held(a, b) == ALIKE) {
                return b;
            }
        }
        return NONE;
    }

    public int find(int a, int b) {
        if (!isPair(a, b)) {
            return UNKNOWN;
        }
        tried.takeGroups(ports);
        int alike = ALL_RENAMINGS;
        for (int x = 0; x <= mask; x++) {
            for (int y = 0; y <= mask; y++) {
                if (alike != 0) {
                    alike = stillAlike(alike, runBoth(a, b, x, y));
                }
            }
        }
        return alike == 0 ? NONE : RENAMINGS[Integer.numberOfTrailingZeros(alike)];
    }

    public int assume(int a, int b) {
        if (!isPair(a, b)) {
            return UNKNOWN;
        }
        if (pairs.has(a, b)) {
            return STATE;
        }
        return pairs.size == MOST_PAIRS ? ROOM : pairs.add(a, b);
    }

    public int drop() {
        int were = pairs.size;
        pairs.size = 0;
        return were;
    }

    public int prove() {
        proof.begin(pairs.size);
        for (int pair = 0; pair < pairs.size; pair++) {
            for (int x = 0; x <= mask; x++) {
                for (int y = 0; y <= mask; y++) {
                    if (proof.answer != UNLIKE) {
                        proveInputs(pair, x, y);
                    }
                }
            }
        }
        return proof.answer;
    }

    public int why(int what) {
        return within(what, 0, Proof.PLACES - 1) ? proof.place[what] : UNKNOWN;
    }

    public int count(int what) {
        switch (what) {
            case 0: return build0.methods;
            case 1: return build1.methods;
            case 2: return pairs.size;
            case 3: return bits;
            case 4: case 5: case 6: case 7: return ports.standsFor[what - 4];
            case 8: case 9: case 10: case 11: return ports.groups[what - 8];
            default: return UNKNOWN;
        }
    }

    private static boolean within(int number, int lowest, int highest) {
        return number >= lowest && number <= highest;
    }

    private Build buildOf(int build) {
        return build == 0 ? build0 : build1;
    }

    private boolean isMethod(int build, int method) {
        return within(build, 0, 1) && buildOf(build).has(method);
    }

    private static boolean isPort(int port) {
        return within(port, 0, PORTS - 1);
    }

    private boolean isPair(int a, int b) {
        return build0.has(a) && build1.has(b);
    }

    private boolean fits(int op, int place, int value) {
        switch (OPERANDS[3 * op + place]) {
            case A_REGISTER: return within(value, 0, REGISTERS - 1);
            case A_NUMBER: return within(value, 0, mask);
            case A_LINE: return within(value, 0, MOST_LINES);
            case A_PORT: return isPort(value);
            case A_METHOD: return within(value, 0, MOST_METHODS - 1);
            case A_KIND: return within(value, LOWEST_KIND, HIGHEST_KIND);
            default: return true;
        }
    }

    /** Whether both RUNS, left in the two machines, ended unspent. */
    private boolean runBoth(int a, int b, int x, int y) {
        run0.go(a, x, y);
        run1.go(b, x, y);
        return run0.trace.end != SPENT && run1.trace.end != SPENT;
    }

    private int held(int a, int b) {
        int answer = ALIKE;
        for (int x = 0; x <= mask; x++) {
            for (int y = 0; y <= mask; y++) {
                if (!runBoth(a, b, x, y)) {
                    answer = UNDECIDED;
                } else if (!runsAlike(ports)) {
                    unlikeX = x;
                    unlikeY = y;
                    return UNLIKE;
                }
            }
        }
        return answer;
    }

    private boolean runsAlike(Ports by) {
        Trace one = run0.trace;
        Trace other = run1.trace;
        return one.endsLike(other) && one.tells == other.tells && by.alike(one, other, 0, one.tells);
    }

    /** Of the RENAMINGS, a bit each, those by which the two latest RUNS are LIKE too; a SPENT RUN leaves none. */
    private int stillAlike(int renamings, boolean unspent) {
        int still = unspent ? renamings : 0;
        for (int i = 0; i < RENAMINGS.length; i++) {
            if ((still & 1 << i) != 0) {
                tried.takeNames(RENAMINGS[i]);
                if (!runsAlike(tried)) {
                    still &= ~(1 << i);
                }
            }
        }
        return still;
    }

    private void proveInputs(int pair, int x, int y) {
        int asked = MOST_CALLINGS;
        // An ANSWER that neither WALK asks for changes nothing, so only its first is tried.
        for (int one = 0; one <= mask + 1 && asked > 0; one++) {
            asked = MOST_CALLINGS;
            for (int two = 0; two <= mask + 1 && asked > 1; two++) {
                walk0.takeAnswers(one, two);
                walk1.takeAnswers(one, two);
                walk0.go(pairs.as[pair], x, y);
                walk1.go(pairs.bs[pair], x, y);
                int answer = walksAnswer();
                if (proof.yieldsTo(answer)) {
                    proof.keep(answer, pair, x, y, one, two);
                }
                if (answer == UNLIKE) {
                    return;
                }
                asked = Math.max(walk0.trace.callings, walk1.trace.callings);
            }
        }
    }

    private int walksAnswer() {
        Trace one = walk0.trace;
        Trace other = walk1.trace;
        if (one.end == SPENT || other.end == SPENT) {
            return UNDECIDED;
        }
        return one.endsLike(other) && callingsAlike(one, other) ? ALIKE : UNLIKE;
    }

    /** Whether the CALLINGS are LIKE, and what was told ahead of, between and behind them. */
    private boolean callingsAlike(Trace one, Trace other) {
        if (one.callings != other.callings) {
            return false;
        }
        int from = 0;
        for (int i = 0; i < one.callings; i++) {
            int to = one.tellsAhead[i];
            if (!one.sameCalling(other, i)
                    || !pairs.has(one.called[i], other.called[i])
                    || !ports.alike(one, other, from, to)) {
                return false;
            }
            from = to;
        }
        return one.tells == other.tells && ports.alike(one, other, from, one.tells);
    }

    /** The METHODS of one BUILD; the OPS of all of them stand in common rows. */
    private static final class Build {
        int methods = 0;
        final int[] sizes = new int[MOST_METHODS];
        final int[] ops = new int[MOST_METHODS * MOST_LINES];
        final int[] as = new int[MOST_METHODS * MOST_LINES];
        final int[] bs = new int[MOST_METHODS * MOST_LINES];
        final int[] cs = new int[MOST_METHODS * MOST_LINES];

        boolean has(int method) {
            return method >= 0 && method < methods;
        }

        int addMethod() {
            return methods++;
        }

        int addOp(int method, int op, int a, int b, int c) {
            int at = placeOf(method, sizes[method]);
            ops[at] = op;
            as[at] = a;
            bs[at] = b;
            cs[at] = c;
            return sizes[method]++;
        }

        int removeOps(int method) {
            int were = sizes[method];
            sizes[method] = 0;
            return were;
        }

        int placeOf(int method, int line) {
            return method * MOST_LINES + line;
        }
    }

    /** What a RUN or a WALK did and how it ended. */
    private static final class Trace {
        int end = RETURNED;
        int kind = 0;
        int number = 0;
        int ops = 0;
        int deepest = 0;
        int tells = 0;
        final int[] tellPorts = new int[MOST_TELLS];
        final int[] tellNumbers = new int[MOST_TELLS];
        int callings = 0;
        final int[] called = new int[MOST_CALLINGS];
        final int[] calledX = new int[MOST_CALLINGS];
        final int[] calledY = new int[MOST_CALLINGS];
        final int[] tellsAhead = new int[MOST_CALLINGS];

        void forget() {
            finish(SPENT, 0, 0);
            ops = 0;
            deepest = 0;
            tells = 0;
            callings = 0;
        }

        void finish(int how, int ofKind, int withNumber) {
            end = how;
            kind = ofKind;
            number = withNumber;
        }

        void addTell(int port, int told) {
            tellPorts[tells] = port;
            tellNumbers[tells] = told;
            tells++;
        }

        void addCalling(int method, int x, int y) {
            called[callings] = method;
            calledX[callings] = x;
            calledY[callings] = y;
            tellsAhead[callings] = tells;
            callings++;
        }

        boolean endsLike(Trace other) {
            return kind == other.kind && number == other.number;
        }

        /** Whether a CALLING has the same inputs in both, and comes behind as many TELLS. */
        boolean sameCalling(Trace other, int calling) {
            return calledX[calling] == other.calledX[calling]
                    && calledY[calling] == other.calledY[calling]
                    && tellsAhead[calling] == other.tellsAhead[calling];
        }
    }

    /** Runs and walks METHODS; a METHOD under way has its own REGISTERS, LINE and number. */
    private static final class Machine {
        final Trace trace = new Trace();
        private final int mask;
        private final int[] registers = new int[MOST_UNDER_WAY * REGISTERS];
        private final int[] lines = new int[MOST_UNDER_WAY];
        private final int[] methods = new int[MOST_UNDER_WAY];
        private final int[] answers = new int[MOST_CALLINGS];
        private final boolean walking;
        private Build build;
        private int underWay = 0;

        Machine(Build build, int mask, boolean walking) {
            this.build = build;
            this.mask = mask;
            this.walking = walking;
        }

        void turnTo(Build other) {
            build = other;
        }

        void takeAnswers(int one, int two) {
            answers[0] = one;
            answers[1] = two;
        }

        void go(int method, int x, int y) {
            trace.forget();
            underWay = 0;
            enter(method, x, y);
            for (int step = 0; step < MOST_STEPS && underWay > 0; step++) {
                if (lines[underWay - 1] >= build.sizes[methods[underWay - 1]]) {
                    giveBack(0);
                } else if (isSpentBy(build.ops[placeOfTop()])) {
                    stop(SPENT, 0, 0);
                } else {
                    perform(placeOfTop());
                }
            }
        }

        private int placeOfTop() {
            return build.placeOf(methods[underWay - 1], lines[underWay - 1]);
        }

        private boolean isSpentBy(int op) {
            return trace.ops == MOST_OPS || op == TELL && trace.tells == MOST_TELLS;
        }

        private void perform(int place) {
            int a = build.as[place];
            int b = build.bs[place];
            int c = build.cs[place];
            trace.ops++;
            switch (build.ops[place]) {
                case SET:
                    put(a, b);
                    break;
                case COPY:
                    put(a, get(b));
                    break;
                case SKIP:
                    lines[underWay - 1] = get(a) == 0 ? b : lines[underWay - 1] + 1;
                    break;
                case GO:
                    lines[underWay - 1] = a;
                    break;
                case TELL:
                    trace.addTell(a, get(b));
                    lines[underWay - 1]++;
                    break;
                case CALL:
                    ask(a, b, get(c), get(c == REGISTERS - 1 ? 0 : c + 1));
                    break;
                case RETURN:
                    giveBack(get(a));
                    break;
                case THROW:
                    stop(THREW, a, get(b));
                    break;
                default:
                    calculate(build.ops[place], a, get(b), get(c));
            }
        }

        private void calculate(int op, int r, int s, int t) {
            if (t == 0 && (op == OVER || op == REST)) {
                stop(THREW, KIND_BY_ZERO, 0);
            } else {
                put(r, result(op, s, t) & mask);
            }
        }

        private static int result(int op, int s, int t) {
            switch (op) {
                case ADD: return s + t;
                case LESS: return s - t;
                case TIMES: return s * t;
                case OVER: return t == 0 ? 0 : s / t;
                case REST: return t == 0 ? 0 : s % t;
                case AND: return s & t;
                case XOR: return s ^ t;
                case BELOW: return s < t ? 1 : 0;
                default: return 0;
            }
        }

        private void ask(int r, int method, int x, int y) {
            if (!build.has(method)) {
                stop(THREW, KIND_NOT_THERE, method & mask);
            } else if (walking) {
                answer(r, method, x, y);
            } else if (underWay == MOST_UNDER_WAY) {
                stop(SPENT, 0, 0);
            } else {
                enter(method, x, y);
            }
        }

        private void answer(int r, int method, int x, int y) {
            if (trace.callings == MOST_CALLINGS) {
                stop(SPENT, 0, 0);
                return;
            }
            int given = answers[trace.callings];
            trace.addCalling(method, x, y);
            if (given > mask) {
                stop(THREW, KIND_ANSWERED, 0);
            } else {
                put(r, given);
            }
        }

        private void enter(int method, int x, int y) {
            int base = underWay * REGISTERS;
            for (int r = 0; r < REGISTERS; r++) {
                registers[base + r] = 0;
            }
            registers[base] = x;
            registers[base + 1] = y;
            lines[underWay] = 0;
            methods[underWay] = method;
            underWay++;
            if (underWay > trace.deepest) {
                trace.deepest = underWay;
            }
        }

        private void giveBack(int number) {
            underWay--;
            if (underWay == 0) {
                trace.finish(RETURNED, 0, number);
            } else {
                // The METHOD that waited still stands at its CALL, which names the REGISTER.
                put(build.as[placeOfTop()], number);
            }
        }

        private void stop(int how, int kind, int number) {
            underWay = 0;
            trace.finish(how, kind, number);
        }

        private int get(int r) {
            return registers[(underWay - 1) * REGISTERS + r];
        }

        /** Puts a NUMBER into a REGISTER and goes on to the next LINE. */
        private void put(int r, int number) {
            registers[(underWay - 1) * REGISTERS + r] = number;
            lines[underWay - 1]++;
        }
    }

    /** For which PORT of BUILD 1 each PORT of BUILD 0 stands, and its GROUP. */
    private static final class Ports {
        final int[] standsFor = {0, 1, 2, 3};
        final int[] groups = new int[PORTS];
        /** For a PORT of BUILD 1 the one that stands for it. */
        private final int[] standsIn = {0, 1, 2, 3};

        int swapIn(int p, int q) {
            int was = standsFor[p];
            name(standsIn[q], was);
            name(p, q);
            return was;
        }

        void takeNames(int renaming) {
            name(0, renaming / 1000);
            name(1, renaming / 100 % 10);
            name(2, renaming / 10 % 10);
            name(3, renaming % 10);
        }

        void takeGroups(Ports from) {
            System.arraycopy(from.groups, 0, groups, 0, PORTS);
        }

        private void name(int p, int q) {
            standsFor[p] = q;
            standsIn[q] = p;
        }

        /** Whether the TELLS of both from this one on, ahead of that one, are LIKE. */
        boolean alike(Trace one, Trace other, int from, int to) {
            for (int group = 0; group < GROUPS; group++) {
                if (!alikeIn(group, one, other, from, to)) {
                    return false;
                }
            }
            return true;
        }

        private boolean alikeIn(int group, Trace one, Trace other, int from, int to) {
            int reached = from;
            for (int i = from; i < to; i++) {
                int port = one.tellPorts[i];
                if (groups[port] == group) {
                    reached = nextIn(group, other, reached, to);
                    if (reached == to
                            || standsIn[other.tellPorts[reached]] != port
                            || other.tellNumbers[reached] != one.tellNumbers[i]) {
                        return false;
                    }
                    reached++;
                }
            }
            return nextIn(group, other, reached, to) == to;
        }

        private int nextIn(int group, Trace other, int from, int end) {
            for (int i = from; i < end; i++) {
                if (groups[standsIn[other.tellPorts[i]]] == group) {
                    return i;
                }
            }
            return end;
        }
    }

    /** The ASSUMED PAIRS. */
    private static final class Pairs {
        int size = 0;
        final int[] as = new int[MOST_PAIRS];
        final int[] bs = new int[MOST_PAIRS];

        boolean has(int a, int b) {
            for (int i = 0; i < size; i++) {
                if (as[i] == a && bs[i] == b) {
                    return true;
                }
            }
            return false;
        }

        int add(int a, int b) {
            as[size] = a;
            bs[size] = b;
            return size++;
        }
    }

    /** What the latest prove() answered, and by which WALKS. */
    private static final class Proof {
        static final int PLACES = 5;
        int answer = NONE;
        final int[] place = {NONE, NONE, NONE, NONE, NONE};

        void begin(int pairs) {
            keep(pairs == 0 ? NONE : ALIKE, NONE, NONE, NONE, NONE, NONE);
        }

        boolean yieldsTo(int found) {
            return found == UNLIKE || found == UNDECIDED && answer == ALIKE;
        }

        void keep(int found, int pair, int x, int y, int one, int two) {
            answer = found;
            place[0] = pair;
            place[1] = x;
            place[2] = y;
            place[3] = one;
            place[4] = two;
        }
    }
}
