/** Promises 8 to 13: rename, group, hold, first, match, find. */
public final class HoldTest {
    private static final Check CHECK = new Check("HoldTest");
    private static final int MIN = Integer.MIN_VALUE, MAX = Integer.MAX_VALUE;
    private static final int NONE = EqualMethods.NONE, UNKNOWN = EqualMethods.UNKNOWN, OUTSIDE = EqualMethods.OUTSIDE;

    public static void main(String[] args) {
        renames();
        groups();
        endings();
        firstInputs();
        spentRuns();
        tellsInOrder();
        fortyTells();
        tellsRenamed();
        matches();
        finds();
        findsByTheLastInputs();
        leavesOthersAlone();
        refusals();
        CHECK.end();
    }

    private static void dueNames(EqualMethods x, String call, int p0, int p1, int p2, int p3) {
        int got = 1000 * x.count(4) + 100 * x.count(5) + 10 * x.count(6) + x.count(7);
        CHECK.due(call, 1000 * p0 + 100 * p1 + 10 * p2 + p3, got);
    }

    /** "PORT p of BUILD 0 stands for PORT q; the one that stood for q stands for what p stood for: that. UNKNOWN." */
    private static void renames() {
        EqualMethods x = new EqualMethods(2);
        dueNames(x, "at first", 0, 1, 2, 3);
        CHECK.due("rename(0, 1)", 0, x.rename(0, 1));
        dueNames(x, "rename(0, 1)", 1, 0, 2, 3);
        CHECK.due("rename(0, 1) again", 1, x.rename(0, 1));
        dueNames(x, "rename(0, 1) again", 1, 0, 2, 3);
        CHECK.due("rename(2, 0)", 2, x.rename(2, 0));
        dueNames(x, "rename(2, 0)", 1, 2, 0, 3);
        CHECK.due("rename(3, 1)", 3, x.rename(3, 1));
        dueNames(x, "rename(3, 1)", 3, 2, 0, 1);
        CHECK.due("rename(1, 3)", 2, x.rename(1, 3));
        dueNames(x, "rename(1, 3)", 2, 3, 0, 1);
        int[] wrong = {-1, 4, MIN, MAX};
        for (int port : wrong) {
            CHECK.due("rename(" + port + ", 0)", UNKNOWN, x.rename(port, 0));
            CHECK.due("rename(0, " + port + ")", UNKNOWN, x.rename(0, port));
        }
        dueNames(x, "behind refusals", 2, 3, 0, 1);
    }

    /** "PORT p is of GROUP g: of which it was. UNKNOWN; OUTSIDE." */
    private static void groups() {
        EqualMethods x = new EqualMethods(2);
        for (int p = 0; p < 4; p++) {
            for (int g = 0; g < 4; g++) {
                CHECK.due("group(" + p + ", " + g + ")", g == 0 ? 0 : g - 1, x.group(p, g));
                CHECK.due("count(" + (8 + p) + ")", g, x.count(8 + p));
            }
        }
        int[] wrong = {-1, 4, MIN, MAX};
        for (int number : wrong) {
            CHECK.due("group(" + number + ", 0)", UNKNOWN, x.group(number, 0));
            CHECK.due("group(0, " + number + ")", OUTSIDE, x.group(0, number));
            CHECK.due("UNKNOWN ahead of OUTSIDE", UNKNOWN, x.group(number, number));
        }
        for (int p = 0; p < 4; p++) {
            CHECK.due("behind refusals", 3, x.count(8 + p));
        }
    }

    /** "if they end alike (KIND, NUMBER)". */
    private static void endings() {
        EqualMethods x = new EqualMethods(3);
        int a = x.method(0);
        int b = x.method(1);
        CHECK.due("both return 0", 1, x.hold(a, b));
        Programs.remake(x, 0, a, Programs.line(Programs.RETURN, 0));
        CHECK.due("one returns x", 0, x.hold(a, b));
        Programs.remake(x, 1, b, Programs.line(Programs.XOR, 4, 0, 1), Programs.line(Programs.XOR, 4, 4, 1),
                Programs.line(Programs.RETURN, 4));
        CHECK.due("x, and x by way of XOR", 1, x.hold(a, b));
        Programs.remake(x, 1, b, Programs.line(Programs.THROW, 2, 0));
        CHECK.due("a RETURN is no THROW", 0, x.hold(a, b));
        Programs.remake(x, 0, a, Programs.line(Programs.THROW, 2, 0));
        CHECK.due("the same THROW", 1, x.hold(a, b));
        Programs.remake(x, 0, a, Programs.line(Programs.THROW, 3, 0));
        CHECK.due("another KIND", 0, x.hold(a, b));
        Programs.remake(x, 0, a, Programs.line(Programs.THROW, 2, 1));
        CHECK.due("another NUMBER", 0, x.hold(a, b));
        Programs.remake(x, 0, a, Programs.line(Programs.OVER, 0, 0, 2));
        Programs.remake(x, 1, b, Programs.line(Programs.REST, 5, 1, 4));
        CHECK.due("by 0, both", 1, x.hold(a, b));
    }

    /** "The FIRST inputs of the latest hold(), x (0), y (1); NONE: it did not answer 0. UNKNOWN." */
    private static void firstInputs() {
        for (int bits = 2; bits <= 3; bits++) {
            int numbers = 1 << bits;
            for (int sx = 0; sx < numbers; sx++) {
                EqualMethods x = new EqualMethods(bits);
                int a = x.method(0);
                int b = x.method(1);
                for (int sy = 0; sy < numbers; sy++) {
                    // 1, if sx is not above x and sy not above y, else 0: first at sx, sy.
                    Programs.remake(x, 0, a, Programs.line(Programs.SET, 2, sx), Programs.line(Programs.SET, 3, sy),
                            Programs.line(Programs.BELOW, 4, 0, 2), Programs.line(Programs.SKIP, 4, 6),
                            Programs.line(Programs.SET, 0, 0), Programs.line(Programs.RETURN, 0),
                            Programs.line(Programs.BELOW, 4, 1, 3), Programs.line(Programs.SKIP, 4, 9),
                            Programs.line(Programs.GO, 24), Programs.line(Programs.SET, 5, 1),
                            Programs.line(Programs.RETURN, 5));
                    CHECK.due("hold", 0, x.hold(a, b));
                    CHECK.due("first(0)", sx, x.first(0));
                    CHECK.due("first(1)", sy, x.first(1));
                }
                x.clear(0, a);
                CHECK.due("hold refused", UNKNOWN, x.hold(a, 1));
                CHECK.due("first(0) behind a refusal", sx, x.first(0));
                CHECK.due("hold", 1, x.hold(a, b));
                CHECK.due("first(0) of 1", NONE, x.first(0));
                CHECK.due("first(1) of 1", NONE, x.first(1));
                int[] wrong = {-1, 2, MIN, MAX};
                for (int what : wrong) {
                    CHECK.due("first(" + what + ")", UNKNOWN, x.first(what));
                }
            }
        }
    }

    /** "else 2 if some RUN was SPENT; else 1". */
    private static void spentRuns() {
        EqualMethods x = new EqualMethods(2);
        int[][] spentAtZero = {Programs.line(Programs.SKIP, 0, 0), Programs.line(Programs.RETURN, 1)};
        int a = Programs.make(x, 0, spentAtZero);
        int b = Programs.make(x, 1, Programs.line(Programs.RETURN, 1));
        CHECK.due("one SPENT", 2, x.hold(a, b));
        CHECK.due("first of 2", NONE, x.first(0));
        Programs.remake(x, 1, b, spentAtZero);
        CHECK.due("both SPENT", 2, x.hold(a, b));
        Programs.remake(x, 1, b, Programs.line(Programs.RETURN, 0));
        CHECK.due("not LIKE behind a SPENT one", 0, x.hold(a, b));
        CHECK.due("first(0)", 1, x.first(0));
        CHECK.due("first(1)", 0, x.first(1));
        Programs.remake(x, 0, a, Programs.line(Programs.RETURN, 1));
        Programs.remake(x, 1, b, Programs.line(Programs.SET, 2, 3), Programs.line(Programs.BELOW, 3, 0, 2),
                Programs.line(Programs.SKIP, 3, 2), Programs.line(Programs.RETURN, 1));
        CHECK.due("the last ones SPENT, of BUILD 1", 2, x.hold(a, b));
    }

    /** "order counts among what is told to PORTS of one GROUP". */
    private static void tellsInOrder() {
        EqualMethods x = new EqualMethods(2);
        int a = Programs.make(x, 0, Programs.line(Programs.TELL, 0, 0), Programs.line(Programs.TELL, 1, 1),
                Programs.line(Programs.TELL, 2, 0));
        int b = Programs.make(x, 1, Programs.line(Programs.TELL, 2, 0), Programs.line(Programs.TELL, 0, 0),
                Programs.line(Programs.TELL, 1, 1));
        CHECK.due("one GROUP, another order", 0, x.hold(a, b));
        x.group(2, 1);
        CHECK.due("PORT 2 of another GROUP", 1, x.hold(a, b));
        x.group(0, 1);
        CHECK.due("PORT 0 and 2 of one GROUP", 0, x.hold(a, b));
        x.group(1, 1);
        x.group(2, 3);
        CHECK.due("PORT 0 and 1 of one GROUP", 1, x.hold(a, b));
        Programs.remake(x, 1, b, Programs.line(Programs.TELL, 2, 0), Programs.line(Programs.TELL, 0, 0));
        CHECK.due("a TELL less in BUILD 1", 0, x.hold(a, b));
        Programs.remake(x, 1, b, Programs.line(Programs.TELL, 2, 0), Programs.line(Programs.TELL, 0, 0),
                Programs.line(Programs.TELL, 1, 1), Programs.line(Programs.TELL, 3, 4));
        CHECK.due("a TELL more in BUILD 1", 0, x.hold(a, b));
        Programs.remake(x, 1, b, Programs.line(Programs.TELL, 2, 0), Programs.line(Programs.TELL, 0, 0),
                Programs.line(Programs.TELL, 1, 0));
        CHECK.due("another NUMBER told", 0, x.hold(a, b));
        CHECK.due("first(1) of that", 1, x.first(1));
        for (int p = 0; p < 4; p++) {
            x.group(p, p);
        }
        Programs.remake(x, 0, a, Programs.line(Programs.TELL, 3, 0), Programs.line(Programs.TELL, 3, 1));
        Programs.remake(x, 1, b, Programs.line(Programs.TELL, 3, 1), Programs.line(Programs.TELL, 3, 0));
        CHECK.due("order to one PORT counts", 0, x.hold(a, b));
        Programs.remake(x, 0, a, Programs.line(Programs.TELL, 0, 4), Programs.line(Programs.TELL, 1, 4));
        Programs.remake(x, 1, b, Programs.line(Programs.TELL, 0, 4), Programs.line(Programs.TELL, 0, 4));
        CHECK.due("the PORT counts", 0, x.hold(a, b));
        for (int p = 0; p < 4; p++) {
            x.group(p, 2);
        }
        CHECK.due("the PORT counts in one GROUP too", 0, x.hold(a, b));
    }

    /** "for each GROUP the TELLS to its PORTS .. are the same": of as many TELLS as there may be. */
    private static void fortyTells() {
        EqualMethods x = new EqualMethods(3);
        for (int build = 0; build < 2; build++) {
            int twenty = x.method(build);
            for (int i = 0; i < 20; i++) {
                x.op(build, twenty, Programs.TELL, i / (build == 0 ? 5 : 1) % 4, 0, 0);
            }
            int[] call = Programs.line(Programs.CALL, 2, twenty, 0);
            Programs.make(x, build, call, call, Programs.line(Programs.SKIP, 1, 4), call);
        }
        CHECK.due("40 TELLS, another order", 0, x.hold(1, 1));
        for (int p = 0; p < 4; p++) {
            x.group(p, 3 - p);
        }
        CHECK.due("40 TELLS by GROUPS, or SPENT", 2, x.hold(1, 1));
        CHECK.due("20 TELLS by GROUPS", 1, x.hold(0, 0));
    }

    /** "(of BUILD 1 by those they stand for)". */
    private static void tellsRenamed() {
        EqualMethods x = new EqualMethods(2);
        int a = Programs.make(x, 0, Programs.line(Programs.TELL, 0, 0), Programs.line(Programs.TELL, 1, 1),
                Programs.line(Programs.TELL, 2, 0));
        int b = Programs.make(x, 1, Programs.line(Programs.TELL, 1, 0), Programs.line(Programs.TELL, 2, 1),
                Programs.line(Programs.TELL, 0, 0));
        CHECK.due("not renamed", 0, x.hold(a, b));
        x.rename(0, 1);
        x.rename(1, 2);
        dueNames(x, "a RENAMING that is not its own inverse", 1, 2, 0, 3);
        CHECK.due("renamed", 1, x.hold(a, b));
        // GROUPS are of PORTS of BUILD 0: PORT 0 of BUILD 0 is PORT 1 of BUILD 1.
        Programs.remake(x, 1, b, Programs.line(Programs.TELL, 2, 1), Programs.line(Programs.TELL, 0, 0),
                Programs.line(Programs.TELL, 1, 0));
        CHECK.due("renamed, another order", 0, x.hold(a, b));
        x.group(1, 2);
        CHECK.due("PORT 1 of its own GROUP", 0, x.hold(a, b));
        x.group(1, 0);
        x.group(0, 2);
        CHECK.due("PORT 0 of its own GROUP", 1, x.hold(a, b));
    }

    /** "The first METHOD of BUILD 1 against which a, HELD, answers 1; NONE. UNKNOWN." */
    private static void matches() {
        EqualMethods x = new EqualMethods(2);
        int a = Programs.make(x, 0, Programs.line(Programs.ADD, 2, 0, 1), Programs.line(Programs.RETURN, 2));
        int empty = x.method(0);
        CHECK.due("no METHOD to match", NONE, x.match(a));
        CHECK.due("no METHOD to match, not even one without OPS", NONE, x.match(empty));
        Programs.make(x, 1, Programs.line(Programs.XOR, 2, 0, 1), Programs.line(Programs.RETURN, 2));
        Programs.make(x, 1, Programs.line(Programs.GO, 0));
        CHECK.due("unlike or SPENT", NONE, x.match(a));
        Programs.make(x, 1, Programs.line(Programs.ADD, 0, 1, 0), Programs.line(Programs.RETURN, 0));
        Programs.make(x, 1, Programs.line(Programs.ADD, 0, 0, 1), Programs.line(Programs.RETURN, 0));
        CHECK.due("the first that matches", 2, x.match(a));
        int sends = Programs.make(x, 0, Programs.line(Programs.TELL, 0, 1));
        Programs.make(x, 1, Programs.line(Programs.TELL, 3, 1));
        Programs.make(x, 1, Programs.line(Programs.TELL, 0, 1));
        CHECK.due("by the PORTS as they are", 5, x.match(sends));
        x.rename(0, 3);
        CHECK.due("by the PORTS renamed", 4, x.match(sends));
        Programs.remake(x, 1, 0, Programs.line(Programs.ADD, 4, 0, 1), Programs.line(Programs.RETURN, 4));
        CHECK.due("METHOD 0", 0, x.match(a));
        CHECK.due("none of six", NONE, x.match(empty));
        int[] wrong = {-1, 3, MIN, MAX};
        for (int method : wrong) {
            CHECK.due("match(" + method + ")", UNKNOWN, x.match(method));
        }
    }

    /** "By which RENAMING, the first of all 24 in order .. NONE. (It is not kept.)" */
    private static void finds() {
        for (int bits = 2; bits <= 3; bits++) {
            EqualMethods x = new EqualMethods(bits);
            int a = Programs.make(x, 0);
            int b = Programs.make(x, 1);
            CHECK.due("nothing told", 123, x.find(a, b));
            x.rename(0, 3);
            CHECK.due("from 0 1 2 3 on, whatever is kept", 123, x.find(a, b));
            dueNames(x, "a find is not kept", 3, 1, 2, 0);
            for (int p0 = 0; p0 < 4; p0++) {
                for (int p1 = 0; p1 < 4; p1++) {
                    for (int p2 = 0; p2 < 4; p2++) {
                        int p3 = 6 - p0 - p1 - p2;
                        if (p0 != p1 && p0 != p2 && p1 != p2) {
                            findsAll(new EqualMethods(bits), p0, p1, p2, p3);
                        }
                    }
                }
            }
            Programs.remake(x, 0, a, Programs.line(Programs.TELL, 1, 0), Programs.line(Programs.TELL, 1, 1));
            Programs.remake(x, 1, b, Programs.line(Programs.TELL, 2, 0), Programs.line(Programs.TELL, 2, 1));
            CHECK.due("the first of several", 213, x.find(a, b));
            Programs.remake(x, 1, b, Programs.line(Programs.TELL, 2, 0), Programs.line(Programs.TELL, 3, 1));
            CHECK.due("none fits", NONE, x.find(a, b));
            Programs.remake(x, 0, a, Programs.line(Programs.TELL, 1, 0), Programs.line(Programs.SKIP, 0, 0));
            Programs.remake(x, 1, b, Programs.line(Programs.TELL, 2, 0), Programs.line(Programs.SKIP, 0, 0));
            CHECK.due("SPENT is not 1", NONE, x.find(a, b));
            Programs.remake(x, 1, b, Programs.line(Programs.TELL, 1, 0), Programs.line(Programs.SKIP, 0, 0));
            CHECK.due("SPENT is not 1, told alike", NONE, x.find(a, b));
            findsByAllInputs(new EqualMethods(bits), (1 << bits) - 1);
        }
    }

    /** TELLS that no RENAMING makes LIKE, where x and y are these alone, and LIKE by 0 1 2 3 elsewhere. */
    private static void findsByAllInputs(EqualMethods x, int mask) {
        int a = Programs.make(x, 0, Programs.line(Programs.TELL, 0, 0));
        int b = x.method(1);
        int[][] inputs = {{0, 0}, {0, mask}, {mask, 0}, {mask, mask}};
        for (int[] input : inputs) {
            Programs.remake(x, 1, b, Programs.line(Programs.SET, 2, input[0]), Programs.line(Programs.SET, 3, input[1]),
                    Programs.line(Programs.TELL, 0, 0), Programs.line(Programs.XOR, 2, 2, 0),
                    Programs.line(Programs.XOR, 3, 3, 1), Programs.line(Programs.SKIP, 2, 7),
                    Programs.line(Programs.GO, 24), Programs.line(Programs.SKIP, 3, 9),
                    Programs.line(Programs.GO, 24), Programs.line(Programs.TELL, 0, 0));
            String where = "unlike at " + input[0] + " " + input[1];
            CHECK.due(where + ", find", NONE, x.find(a, b));
            CHECK.due(where + ", hold", 0, x.hold(a, b));
            CHECK.due(where + ", first(0)", input[0], x.first(0));
            CHECK.due(where + ", first(1)", input[1], x.first(1));
            x.drop();
            x.assume(a, b);
            CHECK.due(where + ", prove", 0, x.prove());
            CHECK.due(where + ", why(1)", input[0], x.why(1));
            CHECK.due(where + ", why(2)", input[1], x.why(2));
        }
    }

    /** "a and b answer 1": for all inputs, up to the last. */
    private static void findsByTheLastInputs() {
        for (int bits = 2; bits <= 3; bits++) {
            int greatest = (1 << bits) - 1;
            EqualMethods x = new EqualMethods(bits);
            // All but one RENAMING fall at the first inputs, and that one at the last.
            String four = "TELL 0 0; TELL 1 0; TELL 2 0; TELL 3 0";
            int a = Programs.make(x, 0, four);
            int b = Programs.make(x, 1, four + "; SET 2 " + greatest + "; AND 3 0 1; BELOW 3 3 2; SKIP 3 9; GO 24; TELL 0 0");
            CHECK.due("unlike at the last inputs alone", NONE, x.find(a, b));
            Programs.remake(x, 1, b, four + "; SET 2 " + greatest + "; AND 3 0 1; BELOW 3 3 2; SKIP 3 7");
            CHECK.due("SPENT at the last inputs alone", NONE, x.find(a, b));
            Programs.remake(x, 1, b, four + "; SET 2 " + greatest + "; AND 3 0 1; BELOW 3 3 2; SKIP 3 24");
            CHECK.due("LIKE at all inputs", 123, x.find(a, b));
            Programs.remake(x, 0, a, "RETURN 0");
            Programs.remake(x, 1, b, "ADD 0 0 2; ADD 0 0 1; LESS 0 0 1; RETURN 0");
            CHECK.due("no input is beyond the NUMBERS", 123, x.find(a, b));
            Programs.remake(x, 0, a, "RETURN 1");
            Programs.remake(x, 1, b, "ADD 1 1 2; RETURN 1");
            CHECK.due("no input is beyond the NUMBERS", 123, x.find(a, b));
        }
    }

    private static void findsAll(EqualMethods x, int p0, int p1, int p2, int p3) {
        int a = x.method(0);
        int b = x.method(1);
        Programs.remake(x, 0, a, Programs.line(Programs.TELL, 0, 0), Programs.line(Programs.TELL, 1, 0),
                Programs.line(Programs.TELL, 2, 0), Programs.line(Programs.TELL, 3, 0));
        Programs.remake(x, 1, b, Programs.line(Programs.TELL, p0, 0), Programs.line(Programs.TELL, p1, 0),
                Programs.line(Programs.TELL, p2, 0), Programs.line(Programs.TELL, p3, 0));
        CHECK.due("find", 1000 * p0 + 100 * p1 + 10 * p2 + p3, x.find(a, b));
        x.group(3, 1);
        Programs.remake(x, 1, b, Programs.line(Programs.TELL, p3, 1), Programs.line(Programs.TELL, p0, 0),
                Programs.line(Programs.TELL, p1, 0), Programs.line(Programs.TELL, p2, 0));
        Programs.remake(x, 0, a, Programs.line(Programs.TELL, 0, 0), Programs.line(Programs.TELL, 1, 0),
                Programs.line(Programs.TELL, 2, 0), Programs.line(Programs.TELL, 3, 1));
        CHECK.due("find by GROUPS", 1000 * p0 + 100 * p1 + 10 * p2 + p3, x.find(a, b));
    }

    /** "of the latest hold()", "of the latest run()": not of match(), find() and prove(). */
    private static void leavesOthersAlone() {
        EqualMethods x = new EqualMethods(2);
        int a = Programs.make(x, 0, Programs.line(Programs.TELL, 2, 1), Programs.line(Programs.RETURN, 0));
        int b = Programs.make(x, 1, Programs.line(Programs.TELL, 2, 1), Programs.line(Programs.RETURN, 1));
        int same = Programs.make(x, 1, Programs.line(Programs.TELL, 2, 1), Programs.line(Programs.RETURN, 0));
        x.run(0, a, 3, 2);
        CHECK.due("hold", 0, x.hold(a, b));
        x.assume(a, same);
        CHECK.due("match", same, x.match(a));
        CHECK.due("find", 123, x.find(a, same));
        CHECK.due("prove", 1, x.prove());
        CHECK.due("first(0) is of hold()", 0, x.first(0));
        CHECK.due("first(1) is of hold()", 1, x.first(1));
        CHECK.due("ran(0) is of run()", 3, x.ran(0));
        CHECK.due("told(0, 1) is of run()", 2, x.told(0, 1));
        CHECK.due("hold", 1, x.hold(a, same));
        CHECK.due("find", NONE, x.find(a, b));
        CHECK.due("first(0) is of hold(), not of find()", NONE, x.first(0));
    }

    /** "METHODS a and b are HELD against each other .. UNKNOWN." */
    private static void refusals() {
        EqualMethods x = new EqualMethods(2);
        x.method(0);
        int[] wrong = {-1, 1, 6, MIN, MAX};
        CHECK.due("no METHOD of BUILD 1", UNKNOWN, x.hold(0, 0));
        CHECK.due("no METHOD of BUILD 1", UNKNOWN, x.find(0, 0));
        x.method(1);
        for (int method : wrong) {
            CHECK.due("hold(" + method + ", 0)", UNKNOWN, x.hold(method, 0));
            CHECK.due("hold(0, " + method + ")", UNKNOWN, x.hold(0, method));
            CHECK.due("find(" + method + ", 0)", UNKNOWN, x.find(method, 0));
            CHECK.due("find(0, " + method + ")", UNKNOWN, x.find(0, method));
        }
        CHECK.due("hold(0, 0)", 1, x.hold(0, 0));
    }
}
