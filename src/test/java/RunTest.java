/** Promises 5 to 7: run, ran, told. */
public final class RunTest {
    private static final Check CHECK = new Check("RunTest");
    private static final int MIN = Integer.MIN_VALUE, MAX = Integer.MAX_VALUE;

    public static void main(String[] args) {
        for (int bits = 2; bits <= 3; bits++) {
            arithmetic(bits);
            byZero(bits);
            methodNotThere(bits);
        }
        registers();
        jumps();
        endsOfLines();
        calls();
        throwsGoOut();
        spentByOps();
        spentByTells();
        spentByDepth();
        tells();
        refusals();
        CHECK.end();
    }

    private static void dueRun(EqualMethods x, String run, int number, int kind) {
        CHECK.due(run + ": number", number, x.ran(0));
        CHECK.due(run + ": kind", kind, x.ran(1));
    }

    private static void dueCounts(EqualMethods x, String run, int ops, int tells, int deepest) {
        CHECK.due(run + ": ops", ops, x.ran(2));
        CHECK.due(run + ": tells", tells, x.ran(3));
        CHECK.due(run + ": deepest", deepest, x.ran(4));
    }

    private static int due(int op, int s, int t) {
        switch (op) {
            case Programs.ADD: return s + t;
            case Programs.LESS: return s - t;
            case Programs.TIMES: return s * t;
            case Programs.OVER: return s / t;
            case Programs.REST: return s % t;
            case Programs.AND: return s & t;
            case Programs.XOR: return s ^ t;
            default: return s < t ? 1 : 0;
        }
    }

    /** "2 ADD r s t, 3 LESS, 4 TIMES, 5 OVER (cut), 6 REST (of that), 7 AND, 8 XOR, 9 BELOW": of all NUMBERS. */
    private static void arithmetic(int bits) {
        int numbers = 1 << bits;
        for (int op = Programs.ADD; op <= Programs.BELOW; op++) {
            EqualMethods x = new EqualMethods(bits);
            int method = x.method(1);
            Programs.remake(x, 1, method, Programs.line(op, 3, 0, 1), Programs.line(Programs.RETURN, 3));
            for (int s = 0; s < numbers; s++) {
                for (int t = op == Programs.OVER || op == Programs.REST ? 1 : 0; t < numbers; t++) {
                    String run = "op " + op + " of " + s + " and " + t;
                    CHECK.due(run, 0, x.run(1, method, s, t));
                    dueRun(x, run, Math.floorMod(due(op, s, t), numbers), 0);
                    dueCounts(x, run, 2, 0, 1);
                }
            }
        }
    }

    /** "OVER, REST by 0 THROW KIND 1, with 0". */
    private static void byZero(int bits) {
        EqualMethods x = new EqualMethods(bits);
        int method = x.method(0);
        for (int op = Programs.OVER; op <= Programs.REST; op++) {
            Programs.remake(x, 0, method, Programs.line(op, 0, 0, 1), Programs.line(Programs.RETURN, 0));
            CHECK.due("by 0", 1, x.run(0, method, 3, 0));
            dueRun(x, "by 0", 0, 1);
            dueCounts(x, "by 0", 1, 0, 1);
        }
    }

    /** "CALL of a METHOD that is not there KIND 8, with its number", which is cut as all that comes. */
    private static void methodNotThere(int bits) {
        EqualMethods x = new EqualMethods(bits);
        int mask = (1 << bits) - 1;
        int method = x.method(0);
        x.method(1);
        for (int m = 1; m < 6; m++) {
            Programs.remake(x, 0, method, Programs.line(Programs.CALL, 0, m, 0));
            CHECK.due("CALL of " + m, 1, x.run(0, method, 1, 2));
            dueRun(x, "CALL of " + m, m & mask, 8);
            dueCounts(x, "CALL of " + m, 1, 0, 1);
        }
        Programs.remake(x, 0, method, Programs.line(Programs.CALL, 0, 1, 0), Programs.line(Programs.RETURN, 0));
        x.method(0);
        CHECK.due("CALL of one that has come", 0, x.run(0, method, 1, 2));
        dueRun(x, "CALL of one that has come", 0, 0);
        dueCounts(x, "CALL of one that has come", 2, 0, 2);
    }

    /** "0 SET r v", "1 COPY r s": of each REGISTER. */
    private static void registers() {
        EqualMethods x = new EqualMethods(1);
        int method = x.method(0);
        for (int r = 0; r < 6; r++) {
            Programs.remake(x, 0, method, Programs.line(Programs.RETURN, r));
            x.run(0, method, 6, 7);
            CHECK.due("REGISTER " + r + " at the beginning", r == 0 ? 6 : r == 1 ? 7 : 0, x.ran(0));
            Programs.remake(x, 0, method, Programs.line(Programs.SET, r, 5), Programs.line(Programs.COPY, (r + 1) % 6, r),
                    Programs.line(Programs.RETURN, (r + 1) % 6));
            x.run(0, method, 1, 2);
            CHECK.due("REGISTER " + r + " copied", 5, x.ran(0));
            CHECK.due("OPS of that", 3, x.ran(2));
        }
    }

    /** "10 SKIP r l", "11 GO l": forth and back. */
    private static void jumps() {
        EqualMethods x = new EqualMethods(1);
        int skip = Programs.make(x, 0, Programs.line(Programs.SKIP, 0, 3), Programs.line(Programs.SET, 2, 4),
                Programs.line(Programs.RETURN, 2), Programs.line(Programs.SET, 2, 6), Programs.line(Programs.RETURN, 2));
        x.run(0, skip, 0, 1);
        CHECK.due("SKIP of 0", 6, x.ran(0));
        dueCounts(x, "SKIP of 0", 3, 0, 1);
        for (int n = 1; n < 8; n++) {
            x.run(0, skip, n, 0);
            CHECK.due("SKIP of " + n, 4, x.ran(0));
        }
        int back = Programs.make(x, 0, Programs.line(Programs.GO, 2), Programs.line(Programs.RETURN, 1),
                Programs.line(Programs.SET, 1, 3), Programs.line(Programs.GO, 1));
        x.run(0, back, 0, 0);
        CHECK.due("GO there and back", 3, x.ran(0));
        CHECK.due("OPS of that", 4, x.ran(2));
    }

    /** "Behind the last LINE (also by l) it RETURNS 0": by each l. */
    private static void endsOfLines() {
        EqualMethods x = new EqualMethods(1);
        int method = x.method(0);
        CHECK.due("no OPS", 0, x.run(0, method, 7, 7));
        dueRun(x, "no OPS", 0, 0);
        dueCounts(x, "no OPS", 0, 0, 1);
        Programs.remake(x, 0, method, Programs.line(Programs.SET, 0, 5));
        x.run(0, method, 7, 7);
        CHECK.due("behind the last LINE", 0, x.ran(0));
        for (int l = 1; l <= 24; l++) {
            Programs.remake(x, 0, method, Programs.line(Programs.GO, l));
            CHECK.due("behind by GO " + l, 0, x.run(0, method, 7, 7));
            dueCounts(x, "behind by GO " + l, 1, 0, 1);
            Programs.remake(x, 0, method, Programs.line(Programs.SKIP, 2, l), Programs.line(Programs.RETURN, 0));
            CHECK.due("behind by SKIP " + l, 0, x.run(0, method, 7, 7));
            dueRun(x, "behind by SKIP " + l, l == 1 ? 7 : 0, 0);
        }
    }

    /** "13 CALL r m s: METHOD m (0 .. 5) of its BUILD". */
    private static void calls() {
        EqualMethods x = new EqualMethods(1);
        int minus = Programs.make(x, 0, Programs.line(Programs.LESS, 5, 0, 1), Programs.line(Programs.RETURN, 5));
        int caller = x.method(0);
        for (int s = 0; s < 6; s++) {
            Programs.remake(x, 0, caller, Programs.line(Programs.SET, 2, 3), Programs.line(Programs.SET, 3, 1),
                    Programs.line(Programs.SET, 4, 7), Programs.line(Programs.SET, 5, 2),
                    Programs.line(Programs.CALL, 4, minus, s), Programs.line(Programs.RETURN, 4));
            int[] held = {6, 4, 3, 1, 7, 2};
            x.run(0, caller, 6, 4);
            CHECK.due("CALL with REGISTER " + s, Math.floorMod(held[s] - held[(s + 1) % 6], 8), x.ran(0));
            dueCounts(x, "CALL with REGISTER " + s, 8, 0, 2);
        }
        Programs.remake(x, 0, caller, Programs.line(Programs.SET, 5, 7), Programs.line(Programs.CALL, 0, minus, 0),
                Programs.line(Programs.CALL, 0, minus, 0), Programs.line(Programs.ADD, 0, 0, 5),
                Programs.line(Programs.RETURN, 0));
        x.run(0, caller, 6, 2);
        CHECK.due("REGISTERS of the caller are its own", (6 - 2 - 2 + 7) % 8, x.ran(0));
        dueCounts(x, "two calls, one behind the other", 9, 0, 2);
        int other = Programs.make(x, 1, Programs.line(Programs.CALL, 0, 0, 0));
        Programs.make(x, 1, Programs.line(Programs.THROW, 4, 0));
        Programs.remake(x, 1, other, Programs.line(Programs.CALL, 0, 1, 0));
        x.run(1, other, 3, 1);
        dueRun(x, "a CALL stays in its BUILD", 3, 4);
    }

    /** "what it THROWS goes out": of each KIND. */
    private static void throwsGoOut() {
        EqualMethods x = new EqualMethods(1);
        int thrower = x.method(0);
        int middle = Programs.make(x, 0, Programs.line(Programs.CALL, 2, thrower, 0), Programs.line(Programs.RETURN, 0));
        int outer = Programs.make(x, 0, Programs.line(Programs.CALL, 2, middle, 0), Programs.line(Programs.RETURN, 0));
        for (int kind = 2; kind <= 7; kind++) {
            Programs.remake(x, 0, thrower, Programs.line(Programs.TELL, 2, 0), Programs.line(Programs.THROW, kind, 1));
            CHECK.due("THROW through CALLS", 1, x.run(0, outer, 1, 6));
            dueRun(x, "THROW through CALLS", 6, kind);
            dueCounts(x, "THROW through CALLS", 4, 1, 3);
        }
    }

    /** "2 OPS that were begun": at the edge of 100. */
    private static void spentByOps() {
        EqualMethods x = new EqualMethods(2);
        // 24 LINES that are gone through four times, then the last four OPS up to the 100th.
        int whole = x.method(0);
        int called = x.method(0);
        for (int i = 0; i < 24; i++) {
            x.op(0, called, Programs.SET, 0, 0, 0);
        }
        for (int extra = 0; extra < 2; extra++) {
            x.clear(0, whole);
            for (int i = 0; i < 3; i++) {
                x.op(0, whole, Programs.CALL, 2, called, 0);
            }
            for (int i = 0; i < 21; i++) {
                x.op(0, whole, Programs.SET, 2, 1, 0);
            }
            int outer = extra == 0 ? Programs.make(x, 0, Programs.line(Programs.CALL, 2, whole, 0),
                    Programs.line(Programs.SET, 2, 1), Programs.line(Programs.SET, 2, 1), Programs.line(Programs.RETURN, 0))
                    : Programs.make(x, 0, Programs.line(Programs.CALL, 2, whole, 0), Programs.line(Programs.SET, 2, 1),
                    Programs.line(Programs.SET, 2, 1), Programs.line(Programs.SET, 2, 1), Programs.line(Programs.RETURN, 0));
            CHECK.due("100 or 101 OPS", extra == 0 ? 0 : 2, x.run(0, outer, 3, 1));
            CHECK.due("its NUMBER", extra == 0 ? 3 : 0, x.ran(0));
            CHECK.due("its KIND", 0, x.ran(1));
            dueCounts(x, "100 or 101 OPS", 100, 0, 3);
        }
        int behind = Programs.make(x, 0, Programs.line(Programs.CALL, 2, whole, 0), Programs.line(Programs.SET, 2, 1),
                Programs.line(Programs.SET, 2, 1), Programs.line(Programs.SET, 2, 1));
        CHECK.due("behind the last LINE with 100 OPS", 0, x.run(0, behind, 3, 1));
        dueCounts(x, "behind the last LINE with 100 OPS", 100, 0, 3);
    }

    /** "3 TELLS": at the edge of 40. */
    private static void spentByTells() {
        EqualMethods x = new EqualMethods(3);
        int twenty = x.method(1);
        for (int i = 0; i < 20; i++) {
            x.op(1, twenty, Programs.TELL, i & 3, 0, 0);
        }
        int forty = Programs.make(x, 1, Programs.line(Programs.CALL, 2, twenty, 0), Programs.line(Programs.CALL, 2, twenty, 1),
                Programs.line(Programs.RETURN, 1));
        CHECK.due("40 TELLS", 0, x.run(1, forty, 5, 6));
        dueRun(x, "40 TELLS", 6, 0);
        dueCounts(x, "40 TELLS", 43, 40, 2);
        for (int i = 0; i < 40; i++) {
            CHECK.due("PORT of TELL " + i, i % 20 & 3, x.told(i, 0));
            CHECK.due("NUMBER of TELL " + i, i < 20 ? 5 : 6, x.told(i, 1));
        }
        CHECK.due("TELL 40", EqualMethods.NONE, x.told(40, 0));
        Programs.remake(x, 1, forty, Programs.line(Programs.CALL, 2, twenty, 0), Programs.line(Programs.CALL, 2, twenty, 1),
                Programs.line(Programs.TELL, 0, 0), Programs.line(Programs.RETURN, 1));
        CHECK.due("41 TELLS", 2, x.run(1, forty, 5, 6));
        CHECK.due("its NUMBER", 0, x.ran(0));
        CHECK.due("its KIND", 0, x.ran(1));
        // The 41st TELL does not begin, so its OP is not counted.
        dueCounts(x, "41 TELLS", 42, 40, 2);
        CHECK.due("TELLS of a SPENT run are kept", 6, x.told(39, 1));
    }

    /** "4 how many METHODS were under way at most": at the edge of 8. */
    private static void spentByDepth() {
        EqualMethods x = new EqualMethods(3);
        int down = Programs.make(x, 0, Programs.line(Programs.SKIP, 0, 4), Programs.line(Programs.SET, 2, 1),
                Programs.line(Programs.LESS, 0, 0, 2), Programs.line(Programs.CALL, 3, 0, 0),
                Programs.line(Programs.ADD, 3, 3, 1), Programs.line(Programs.RETURN, 3));
        CHECK.due("8 under way", 0, x.run(0, down, 7, 1));
        CHECK.due("8 under way: NUMBER", 0, x.ran(0));
        dueCounts(x, "8 under way", 7 * 6 + 3, 0, 8);
        CHECK.due("7 under way", 0, x.run(0, down, 6, 3));
        CHECK.due("7 under way: NUMBER", 7 * 3 % 8, x.ran(0));
        dueCounts(x, "7 under way", 6 * 6 + 3, 0, 7);
        int more = Programs.make(x, 0, Programs.line(Programs.CALL, 2, down, 0), Programs.line(Programs.RETURN, 2));
        CHECK.due("8 under way, from another", 0, x.run(0, more, 6, 0));
        CHECK.due("8 at most", 8, x.ran(4));
        CHECK.due("9 under way", 2, x.run(0, more, 7, 0));
        dueCounts(x, "9 under way", 1 + 7 * 4, 0, 8);
        dueRun(x, "9 under way", 0, 0);
        int missing = Programs.make(x, 0, Programs.line(Programs.SKIP, 0, 4), Programs.line(Programs.SET, 2, 1),
                Programs.line(Programs.LESS, 0, 0, 2), Programs.line(Programs.CALL, 3, 2, 0),
                Programs.line(Programs.CALL, 3, 5, 0));
        CHECK.due("not there, from the 8th", 1, x.run(0, missing, 7, 0));
        dueRun(x, "not there, from the 8th", 5, 8);
        dueCounts(x, "not there, from the 8th", 7 * 4 + 2, 0, 8);
    }

    /** "TELL i of the latest run(): 0 its PORT, 1 its NUMBER. NONE; UNKNOWN (what)." */
    private static void tells() {
        EqualMethods x = new EqualMethods(2);
        int method = Programs.make(x, 0, Programs.line(Programs.TELL, 3, 0), Programs.line(Programs.TELL, 0, 1),
                Programs.line(Programs.TELL, 3, 5));
        x.run(0, method, 2, 1);
        int[][] want = {{3, 2}, {0, 1}, {3, 0}};
        for (int i = 0; i < 3; i++) {
            CHECK.due("told(" + i + ", 0)", want[i][0], x.told(i, 0));
            CHECK.due("told(" + i + ", 1)", want[i][1], x.told(i, 1));
        }
        int[] none = {-1, 3, 40, 41, MIN, MAX};
        int[] wrong = {-1, 2, MIN, MAX};
        for (int i : none) {
            CHECK.due("told(" + i + ", 0)", EqualMethods.NONE, x.told(i, 0));
            CHECK.due("told(" + i + ", 1)", EqualMethods.NONE, x.told(i, 1));
            CHECK.due("told(" + i + ", 2)", EqualMethods.UNKNOWN, x.told(i, 2));
        }
        for (int what : wrong) {
            CHECK.due("told(0, " + what + ")", EqualMethods.UNKNOWN, x.told(0, what));
        }
        int quiet = x.method(1);
        x.run(1, quiet, 0, 0);
        CHECK.due("TELLS of the run before are gone", EqualMethods.NONE, x.told(0, 0));
    }

    /** "A METHOD is RUN .. UNKNOWN; OUTSIDE.": then the latest run() is the one before. */
    private static void refusals() {
        for (int bits = 2; bits <= 3; bits++) {
            EqualMethods x = new EqualMethods(bits);
            int mask = (1 << bits) - 1;
            Programs.make(x, 0, Programs.line(Programs.TELL, 1, 0), Programs.line(Programs.THROW, 5, 1));
            CHECK.due("refused ahead of any", EqualMethods.OUTSIDE, x.run(0, 0, mask + 1, 0));
            dueRun(x, "ahead of any", 0, 0);
            dueCounts(x, "ahead of any", 0, 0, 0);
            CHECK.due("told ahead of any", EqualMethods.NONE, x.told(0, 0));
            x.run(0, 0, mask, mask);
            int[] wrong = {-1, mask + 1, MIN, MAX};
            for (int number : wrong) {
                CHECK.due("x " + number, EqualMethods.OUTSIDE, x.run(0, 0, number, 0));
                CHECK.due("y " + number, EqualMethods.OUTSIDE, x.run(0, 0, 0, number));
                CHECK.due("UNKNOWN ahead of OUTSIDE", EqualMethods.UNKNOWN, x.run(0, 1, number, 0));
            }
            int[] unknown = {-1, 2, MIN, MAX};
            for (int number : unknown) {
                CHECK.due("BUILD " + number, EqualMethods.UNKNOWN, x.run(number, 0, 0, 0));
                CHECK.due("METHOD " + number, EqualMethods.UNKNOWN, x.run(0, number, 0, 0));
                CHECK.due("METHOD of the other BUILD", EqualMethods.UNKNOWN, x.run(1, 0, 0, 0));
            }
            int[] whats = {-1, 5, MIN, MAX};
            for (int what : whats) {
                CHECK.due("ran(" + what + ")", EqualMethods.UNKNOWN, x.ran(what));
            }
            dueRun(x, "behind refusals", mask, 5);
            dueCounts(x, "behind refusals", 2, 1, 1);
            CHECK.due("told behind refusals", mask, x.told(0, 1));
        }
    }
}
