/** Promises 1 to 4 and 18: a new object, method, op, clear, count. */
public final class BuildTest {
    private static final Check CHECK = new Check("BuildTest");
    private static final int MIN = Integer.MIN_VALUE, MAX = Integer.MAX_VALUE;

    public static void main(String[] args) {
        newObjects();
        methods();
        methodsAreApart();
        operands(2);
        operands(3);
        freeOperands();
        refusalsInOrder();
        roomForOps();
        clears();
        counts();
        CHECK.end();
    }

    /** "No METHODS, no PAIRS"; "WORDS have W bits (3, if the constructor's number is odd, else 2)". */
    private static void newObjects() {
        int[] numbers = {0, 2, -2, 1234, MIN, 1, -1, 3, -3, 1235, MAX};
        for (int i = 0; i < numbers.length; i++) {
            EqualMethods x = new EqualMethods(numbers[i]);
            CHECK.due("W of " + numbers[i], i < 5 ? 2 : 3, x.count(3));
            for (int what = 0; what < 3; what++) {
                CHECK.due("new count(" + what + ")", 0, x.count(what));
            }
            for (int what = 0; what < 5; what++) {
                CHECK.due("new ran(" + what + ")", 0, x.ran(what));
                CHECK.due("new why(" + what + ")", EqualMethods.NONE, x.why(what));
            }
            CHECK.due("new told(0, 0)", EqualMethods.NONE, x.told(0, 0));
            CHECK.due("new first(0)", EqualMethods.NONE, x.first(0));
            CHECK.due("new first(1)", EqualMethods.NONE, x.first(1));
            CHECK.due("new drop()", 0, x.drop());
            CHECK.due("new prove()", EqualMethods.NONE, x.prove());
            CHECK.due("new run", EqualMethods.UNKNOWN, x.run(0, 0, 0, 0));
        }
    }

    /** "A METHOD without OPS: its number. UNKNOWN; ROOM." */
    private static void methods() {
        EqualMethods x = new EqualMethods(2);
        int[] wrong = {-1, 2, MIN, MAX};
        for (int build : wrong) {
            CHECK.due("method(" + build + ")", EqualMethods.UNKNOWN, x.method(build));
        }
        CHECK.due("count(0)", 0, x.count(0));
        for (int build = 0; build < 2; build++) {
            for (int i = 0; i < 6; i++) {
                CHECK.due("method(" + build + ")", i, x.method(build));
                CHECK.due("count(" + build + ")", i + 1, x.count(build));
            }
            CHECK.due("7th method", EqualMethods.ROOM, x.method(build));
            CHECK.due("count behind ROOM", 6, x.count(build));
        }
        CHECK.due("UNKNOWN ahead of ROOM", EqualMethods.UNKNOWN, x.method(2));
    }

    /** "An OP behind the others of a METHOD": of that METHOD alone. */
    private static void methodsAreApart() {
        EqualMethods x = new EqualMethods(1);
        for (int i = 0; i < 6; i++) {
            x.method(0);
            x.method(1);
        }
        for (int build = 0; build < 2; build++) {
            for (int m = 0; m < 6; m++) {
                CHECK.due("first op", 0, x.op(build, m, Programs.SET, 2, m + build, 0));
                CHECK.due("second op", 1, x.op(build, m, Programs.RETURN, 2, 0, 0));
            }
        }
        for (int build = 0; build < 2; build++) {
            for (int m = 0; m < 6; m++) {
                x.run(build, m, 0, 0);
                CHECK.due("what method " + m + " returns", m + build, x.ran(0));
            }
        }
    }

    /** "OUTSIDE (a number is not as told)": the least and the greatest of each operand, and the ones beside them. */
    private static void operands(int bits) {
        for (int op = 0; op < Programs.OPS; op++) {
            EqualMethods x = new EqualMethods(bits);
            x.method(0);
            for (int place = 0; place < 3; place++) {
                if (Programs.isNamed(op, place)) {
                    operand(x, op, place, Programs.least(op, place), 0);
                    operand(x, op, place, Programs.most(op, place, bits), 0);
                    operand(x, op, place, Programs.least(op, place) - 1, EqualMethods.OUTSIDE);
                    operand(x, op, place, Programs.most(op, place, bits) + 1, EqualMethods.OUTSIDE);
                    operand(x, op, place, MIN, EqualMethods.OUTSIDE);
                    operand(x, op, place, MAX, EqualMethods.OUTSIDE);
                }
            }
        }
    }

    private static void operand(EqualMethods x, int op, int place, int value, int want) {
        int[] given = Programs.leastOperands(op);
        given[place] = value;
        String call = "op " + op + " with " + given[0] + " " + given[1] + " " + given[2];
        CHECK.due(call, want, x.op(0, 0, op, given[0], given[1], given[2]));
        CHECK.due("OPS behind " + call, want == 0 ? 1 : 0, x.clear(0, 0));
    }

    /** "what one does not name is not looked at": nor refused. */
    private static void freeOperands() {
        EqualMethods x = new EqualMethods(2);
        x.method(1);
        for (int op = 0; op < Programs.OPS; op++) {
            int[] given = Programs.leastOperands(op);
            for (int i = 0; i < 3; i++) {
                given[i] = Programs.isNamed(op, i) ? given[i] : i == 1 ? MIN : MAX;
            }
            CHECK.due("free operands of " + op, op, x.op(1, 0, op, given[0], given[1], given[2]));
        }
    }

    /** "UNKNOWN; OUTSIDE: also the OP". */
    private static void refusalsInOrder() {
        EqualMethods x = new EqualMethods(2);
        x.method(0);
        CHECK.due("no such BUILD", EqualMethods.UNKNOWN, x.op(2, 0, 0, 0, 0, 0));
        CHECK.due("no such BUILD", EqualMethods.UNKNOWN, x.op(-1, 0, 99, 0, 0, 0));
        CHECK.due("no such METHOD", EqualMethods.UNKNOWN, x.op(0, 1, 99, 0, 0, 0));
        CHECK.due("no such METHOD", EqualMethods.UNKNOWN, x.op(0, -1, 0, 9, 0, 0));
        CHECK.due("no such METHOD", EqualMethods.UNKNOWN, x.op(1, 0, 0, 0, 0, 0));
        int[] wrong = {-1, 16, MIN, MAX};
        for (int op : wrong) {
            CHECK.due("op " + op, EqualMethods.OUTSIDE, x.op(0, 0, op, 0, 0, 0));
        }
        CHECK.due("a PORT as a part of the OP", EqualMethods.OUTSIDE, x.op(0, 0, 12, 4, 0, 0));
        CHECK.due("a METHOD as a part of the OP", EqualMethods.OUTSIDE, x.op(0, 0, 13, 0, 6, 0));
        CHECK.due("a METHOD that may come", 0, x.op(0, 0, 13, 0, 5, 0));
        CHECK.due("no such METHOD, clear", EqualMethods.UNKNOWN, x.clear(0, 1));
        CHECK.due("no such METHOD, clear", EqualMethods.UNKNOWN, x.clear(0, -1));
        CHECK.due("no such METHOD, clear", EqualMethods.UNKNOWN, x.clear(1, 0));
        CHECK.due("no such BUILD, clear", EqualMethods.UNKNOWN, x.clear(2, 0));
        CHECK.due("no such BUILD, clear", EqualMethods.UNKNOWN, x.clear(-1, 0));
        CHECK.due("OPS behind refusals", 1, x.clear(0, 0));
    }

    /** "its LINE .. ROOM": 24 OPS, and no 25th until they go. */
    private static void roomForOps() {
        EqualMethods x = new EqualMethods(3);
        x.method(0);
        x.method(0);
        for (int i = 0; i < 24; i++) {
            CHECK.due("line " + i, i, x.op(0, 0, 0, 2, i & 7, 0));
        }
        CHECK.due("25th op", EqualMethods.ROOM, x.op(0, 0, 0, 0, 0, 0));
        CHECK.due("OUTSIDE ahead of ROOM", EqualMethods.OUTSIDE, x.op(0, 0, 0, 6, 0, 0));
        CHECK.due("OUTSIDE ahead of ROOM", EqualMethods.OUTSIDE, x.op(0, 0, 16, 0, 0, 0));
        CHECK.due("OUTSIDE ahead of ROOM", EqualMethods.OUTSIDE, x.op(0, 0, 12, 4, 0, 0));
        CHECK.due("UNKNOWN ahead of ROOM", EqualMethods.UNKNOWN, x.op(2, 0, 12, 0, 0, 0));
        CHECK.due("another METHOD has room", 0, x.op(0, 1, 0, 0, 0, 0));
        x.run(0, 0, 1, 1);
        CHECK.due("24 OPS are run", 24, x.ran(2));
        CHECK.due("clear", 24, x.clear(0, 0));
        CHECK.due("room again", 0, x.op(0, 0, 0, 0, 0, 0));
        CHECK.due("the other METHOD keeps its OPS", 1, x.clear(0, 1));
    }

    /** "A METHOD's OPS go: how many." */
    private static void clears() {
        EqualMethods x = new EqualMethods(3);
        Programs.make(x, 0, Programs.line(Programs.RETURN, 0));
        Programs.make(x, 0, Programs.line(Programs.RETURN, 1));
        Programs.make(x, 1, Programs.line(Programs.RETURN, 0), Programs.line(Programs.RETURN, 0));
        CHECK.due("clear(0, 0)", 1, x.clear(0, 0));
        CHECK.due("clear(0, 0) again", 0, x.clear(0, 0));
        CHECK.due("the METHOD stays", 2, x.count(0));
        x.run(0, 0, 5, 6);
        CHECK.due("a cleared METHOD returns", 0, x.ran(0));
        CHECK.due("a cleared METHOD has no OPS", 0, x.ran(2));
        x.run(0, 1, 5, 6);
        CHECK.due("its neighbour", 6, x.ran(0));
        x.run(1, 0, 5, 6);
        CHECK.due("the other BUILD", 5, x.ran(0));
        CHECK.due("clear(1, 0)", 2, x.clear(1, 0));
        clearsOfPairs();
    }

    private static void clearsOfPairs() {
        EqualMethods x = new EqualMethods(2);
        Programs.make(x, 0, Programs.times(24, "SET 2 1"));
        Programs.make(x, 1, "RETURN 0");
        x.assume(0, 0);
        x.run(0, 0, 1, 1);
        CHECK.due("not LIKE", 0, x.prove());
        CHECK.due("a full METHOD", 24, x.clear(0, 0));
        CHECK.due("the other METHOD of the PAIR", 1, x.clear(1, 0));
        CHECK.due("the PAIR stays", 1, x.count(2));
        CHECK.due("the METHODS stay", 1, x.count(0));
        CHECK.due("the latest run() stays", 24, x.ran(2));
        CHECK.due("why() stays", 1, x.why(1));
        CHECK.due("LIKE without OPS", 1, x.prove());
    }

    /** "0 METHODS of BUILD 0, 1 of BUILD 1, 2 PAIRS, 3 W. 4 + p .., 8 + p its GROUP. UNKNOWN." */
    private static void counts() {
        EqualMethods x = new EqualMethods(4);
        x.method(0);
        x.method(0);
        x.method(1);
        x.assume(1, 0);
        x.rename(0, 2);
        x.group(1, 3);
        int[] want = {2, 1, 1, 2, 2, 1, 0, 3, 0, 3, 0, 0};
        for (int what = 0; what < 12; what++) {
            CHECK.due("count(" + what + ")", want[what], x.count(what));
        }
        int[] wrong = {-1, 12, MIN, MAX};
        for (int what : wrong) {
            CHECK.due("count(" + what + ")", EqualMethods.UNKNOWN, x.count(what));
        }
    }
}
