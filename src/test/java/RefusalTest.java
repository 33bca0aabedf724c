/**
 * "Refusals, and nothing changes; of several the first: UNKNOWN (no such BUILD, METHOD, PORT, what),
 * OUTSIDE (a number is not as told), STATE (as told), ROOM. NONE: there is none."
 */
public final class RefusalTest {
    private static final Check CHECK = new Check("RefusalTest");
    private static final int MIN = Integer.MIN_VALUE, MAX = Integer.MAX_VALUE;
    private static final int NONE = EqualMethods.NONE, UNKNOWN = EqualMethods.UNKNOWN, OUTSIDE = EqualMethods.OUTSIDE;
    private static final int STATE = EqualMethods.STATE, ROOM = EqualMethods.ROOM;
    private static final int[][] PAIRS = {{0, 0}, {1, 1}, {2, 2}, {0, 1}, {2, 5}, {1, 0}};
    private static final int FULL = 1;

    private interface Call {
        int on(EqualMethods x);
    }

    private final boolean isNew;
    private final State untouched;

    private RefusalTest(boolean isNew) {
        this.isNew = isNew;
        this.untouched = new State(object());
    }

    public static void main(String[] args) {
        isRich();
        RefusalTest rich = new RefusalTest(false);
        rich.builds();
        rich.methods();
        rich.ops();
        rich.operands();
        rich.inputs();
        rich.ports();
        rich.whats();
        rich.pairs();
        rich.severalRefusals();
        rich.askedAlone();
        rich.saidAgain();
        RefusalTest fresh = new RefusalTest(true);
        fresh.nothingThere();
        fresh.ports();
        fresh.whats();
        CHECK.end();
    }

    /** An object with as much in it as the refusals need: full rows, and a latest run(), hold() and prove(). */
    private static EqualMethods rich() {
        EqualMethods x = new EqualMethods(1);
        Programs.make(x, 0, "ADD 2 0 1; TELL 1 2; CALL 3 1 0; TELL 3 3; THROW 5 3");
        Programs.make(x, 0, Programs.times(23, "ADD 2 0 1") + "; RETURN 1");
        x.method(0);
        Programs.make(x, 1, "ADD 2 0 1; TELL 0 2; CALL 3 1 0; TELL 2 3; THROW 5 3");
        Programs.make(x, 1, "TELL 1 0; RETURN 0");
        for (int m = 2; m < 5; m++) {
            Programs.make(x, 1, "SET 2 " + m + "; RETURN 2");
        }
        x.method(1);
        for (int[] pair : PAIRS) {
            x.assume(pair[0], pair[1]);
        }
        x.rename(0, 1);
        x.rename(2, 3);
        x.group(1, 2);
        x.group(3, 1);
        x.run(0, 0, 1, 2);
        x.hold(0, 0);
        x.prove();
        return x;
    }

    private EqualMethods object() {
        return isNew ? new EqualMethods(1) : rich();
    }

    /** The state must tell something, or nothing could be seen to change. */
    private static void isRich() {
        EqualMethods x = rich();
        CHECK.due("METHODS of BUILD 0", 3, x.count(0));
        CHECK.due("METHODS of BUILD 1", 6, x.count(1));
        CHECK.due("PAIRS", 6, x.count(2));
        CHECK.due("KIND of the latest run()", 5, x.ran(1));
        CHECK.due("TELLS of the latest run()", 2, x.ran(3));
        CHECK.due("first(1) of the latest hold()", 0, x.first(1));
        CHECK.due("why(0) of the latest prove()", 1, x.why(0));
        CHECK.due("OPS of the full METHOD", 24, x.clear(0, FULL));
    }

    private void due(String name, int want, Call call) {
        EqualMethods x = object();
        CHECK.due(name, want, call.on(x));
        new State(x).due(CHECK, "behind " + name, untouched);
    }

    /** "BUILDS 0 and 1"; "6 at most". */
    private void builds() {
        for (int build : new int[] {-1, 2, MIN, MAX}) {
            due("method(" + build + ")", UNKNOWN, x -> x.method(build));
            due("clear(" + build + ", 0)", UNKNOWN, x -> x.clear(build, 0));
            due("run(" + build + ", 0, 0, 0)", UNKNOWN, x -> x.run(build, 0, 0, 0));
            due("op(" + build + ", 0, ..)", UNKNOWN, x -> x.op(build, 0, Programs.RETURN, 0, 0, 0));
        }
        due("method(1), a 7th", ROOM, x -> x.method(1));
    }

    /** "METHODS 0, 1, .. as they come": of the BUILD that is meant. */
    private void methods() {
        for (int m : new int[] {-1, 6, MIN, MAX}) {
            for (int build = 0; build < 2; build++) {
                int of = build;
                due("clear(" + of + ", " + m + ")", UNKNOWN, x -> x.clear(of, m));
                due("run(" + of + ", " + m + ", 0, 0)", UNKNOWN, x -> x.run(of, m, 0, 0));
                due("op(" + of + ", " + m + ", ..)", UNKNOWN, x -> x.op(of, m, Programs.RETURN, 0, 0, 0));
            }
            due("hold(0, " + m + ")", UNKNOWN, x -> x.hold(0, m));
            due("find(0, " + m + ")", UNKNOWN, x -> x.find(0, m));
            due("assume(0, " + m + ")", UNKNOWN, x -> x.assume(0, m));
        }
        // METHODS 3 to 5 are there in BUILD 1 alone.
        for (int m : new int[] {-1, 3, 5, 6, MIN, MAX}) {
            due("clear(0, " + m + ")", UNKNOWN, x -> x.clear(0, m));
            due("run(0, " + m + ", 0, 0)", UNKNOWN, x -> x.run(0, m, 0, 0));
            due("op(0, " + m + ", ..)", UNKNOWN, x -> x.op(0, m, Programs.RETURN, 0, 0, 0));
            due("hold(" + m + ", 0)", UNKNOWN, x -> x.hold(m, 0));
            due("match(" + m + ")", UNKNOWN, x -> x.match(m));
            due("find(" + m + ", 0)", UNKNOWN, x -> x.find(m, 0));
            due("assume(" + m + ", 0)", UNKNOWN, x -> x.assume(m, 0));
        }
    }

    /** "OUTSIDE: also the OP; ROOM"; "24 at most". */
    private void ops() {
        for (int op : new int[] {-1, 16, MIN, MAX}) {
            due("OP " + op, OUTSIDE, x -> x.op(0, 2, op, 0, 0, 0));
        }
        for (int op = 0; op < Programs.OPS; op++) {
            int[] fits = Programs.leastOperands(op);
            int of = op;
            due("OP " + op + ", a 25th", ROOM, x -> x.op(0, FULL, of, fits[0], fits[1], fits[2]));
        }
    }

    /** "r, s, t are REGISTERS", "NUMBER v", "LINE l (0 .. 24)", "PORT p", "METHOD m (0 .. 5)", "KIND k (2 .. 7)". */
    private void operands() {
        for (int op = 0; op < Programs.OPS; op++) {
            for (int place = 0; place < 3; place++) {
                if (Programs.isNamed(op, place)) {
                    int least = Programs.least(op, place);
                    int most = Programs.most(op, place, 3);
                    for (int value : new int[] {least - 1, most + 1, MIN, MAX}) {
                        operand(op, place, value);
                    }
                }
            }
        }
    }

    private void operand(int op, int place, int value) {
        int[] given = Programs.leastOperands(op);
        given[place] = value;
        String name = "OP " + op + " of " + given[0] + " " + given[1] + " " + given[2];
        due(name, OUTSIDE, x -> x.op(0, 2, op, given[0], given[1], given[2]));
        due(name + ", a 25th", OUTSIDE, x -> x.op(0, FULL, op, given[0], given[1], given[2]));
        due(name + ", of no METHOD", UNKNOWN, x -> x.op(0, 3, op, given[0], given[1], given[2]));
    }

    /** "NUMBERS 0 .. 2^W - 1": as inputs. */
    private void inputs() {
        for (int number : new int[] {-1, 8, MIN, MAX}) {
            due("run(0, 0, " + number + ", 0)", OUTSIDE, x -> x.run(0, 0, number, 0));
            due("run(1, 0, 0, " + number + ")", OUTSIDE, x -> x.run(1, 0, 0, number));
            due("run(0, 3, " + number + ", 0)", UNKNOWN, x -> x.run(0, 3, number, 0));
            due("run(2, 0, 0, " + number + ")", UNKNOWN, x -> x.run(2, 0, 0, number));
        }
    }

    /** "PORTS 0 .. 3", "GROUPS 0 .. 3". */
    private void ports() {
        for (int number : new int[] {-1, 4, MIN, MAX}) {
            due("rename(" + number + ", 0)", UNKNOWN, x -> x.rename(number, 0));
            due("rename(0, " + number + ")", UNKNOWN, x -> x.rename(0, number));
            due("rename(" + number + ", " + number + ")", UNKNOWN, x -> x.rename(number, number));
            due("group(" + number + ", 0)", UNKNOWN, x -> x.group(number, 0));
            due("group(3, " + number + ")", OUTSIDE, x -> x.group(3, number));
            due("group(" + number + ", " + number + ")", UNKNOWN, x -> x.group(number, number));
        }
    }

    /** "UNKNOWN (.. what)"; "NONE: there is none". */
    private void whats() {
        for (int what : new int[] {-1, 5, MIN, MAX}) {
            due("ran(" + what + ")", UNKNOWN, x -> x.ran(what));
            due("why(" + what + ")", UNKNOWN, x -> x.why(what));
        }
        for (int what : new int[] {-1, 2, MIN, MAX}) {
            due("first(" + what + ")", UNKNOWN, x -> x.first(what));
            due("told(0, " + what + ")", UNKNOWN, x -> x.told(0, what));
            due("told(40, " + what + ")", UNKNOWN, x -> x.told(40, what));
        }
        for (int what : new int[] {-1, 12, MIN, MAX}) {
            due("count(" + what + ")", UNKNOWN, x -> x.count(what));
        }
        for (int i : new int[] {-1, 2, 39, 40, MIN, MAX}) {
            due("told(" + i + ", 0)", NONE, x -> x.told(i, 0));
            due("told(" + i + ", 1)", NONE, x -> x.told(i, 1));
        }
    }

    /** "STATE: it is already; ROOM". */
    private void pairs() {
        for (int[] pair : PAIRS) {
            due("assume(" + pair[0] + ", " + pair[1] + ") again", STATE, x -> x.assume(pair[0], pair[1]));
        }
        due("assume(2, 0), a 7th", ROOM, x -> x.assume(2, 0));
        due("assume(1, 5), a 7th", ROOM, x -> x.assume(1, 5));
    }

    /** "of several the first". */
    private void severalRefusals() {
        due("no METHOD, no OP, no room", UNKNOWN, x -> x.op(1, 6, 16, 9, 9, 9));
        due("no BUILD, no METHOD, no OP", UNKNOWN, x -> x.op(2, 6, 16, 9, 9, 9));
        due("no OP, no room", OUTSIDE, x -> x.op(0, FULL, 16, 0, 0, 0));
        due("no PORT, no REGISTER, no room", OUTSIDE, x -> x.op(0, FULL, Programs.TELL, 4, 6, 0));
        due("no METHOD of both BUILDS", UNKNOWN, x -> x.assume(3, 6));
        due("no METHOD, and no room for PAIRS", UNKNOWN, x -> x.assume(0, 6));
        due("no BUILD, and no room for METHODS", UNKNOWN, x -> x.method(2));
    }

    /** Calls that ask and change nothing, whatever they answer. */
    private void askedAlone() {
        for (int i = 0; i < 5; i++) {
            int what = i;
            due("ran(" + what + ")", rich().ran(what), x -> x.ran(what));
            due("why(" + what + ")", rich().why(what), x -> x.why(what));
        }
        for (int i = 0; i < 12; i++) {
            int what = i;
            due("count(" + what + ")", rich().count(what), x -> x.count(what));
        }
        due("match(0)", NONE, x -> x.match(0));
        due("match(2)", 5, x -> x.match(2));
        due("find(0, 0)", NONE, x -> x.find(0, 0));
        due("find(2, 5)", 123, x -> x.find(2, 5));
        due("told(1, 1)", 2, x -> x.told(1, 1));
        due("first(0)", 0, x -> x.first(0));
    }

    /** Calls that change something, but not if it is so already. */
    private void saidAgain() {
        due("run() again", 1, x -> x.run(0, 0, 1, 2));
        due("hold() again", 0, x -> x.hold(0, 0));
        due("prove() again", 0, x -> x.prove());
        due("rename(0, 1) again", 1, x -> x.rename(0, 1));
        due("group(1, 2) again", 2, x -> x.group(1, 2));
        due("clear() of no OPS", 0, x -> x.clear(0, 2));
    }

    /** "No METHODS, no PAIRS". */
    private void nothingThere() {
        due("method(2)", UNKNOWN, x -> x.method(2));
        due("op(0, 0, ..)", UNKNOWN, x -> x.op(0, 0, Programs.RETURN, 0, 0, 0));
        due("op(1, 0, ..)", UNKNOWN, x -> x.op(1, 0, Programs.RETURN, 0, 0, 0));
        due("clear(0, 0)", UNKNOWN, x -> x.clear(0, 0));
        due("run(0, 0, 0, 0)", UNKNOWN, x -> x.run(0, 0, 0, 0));
        due("run(1, 0, 8, 8)", UNKNOWN, x -> x.run(1, 0, 8, 8));
        due("hold(0, 0)", UNKNOWN, x -> x.hold(0, 0));
        due("match(0)", UNKNOWN, x -> x.match(0));
        due("find(0, 0)", UNKNOWN, x -> x.find(0, 0));
        due("assume(0, 0)", UNKNOWN, x -> x.assume(0, 0));
        due("drop()", 0, x -> x.drop());
        due("prove()", NONE, x -> x.prove());
        due("why(0)", NONE, x -> x.why(0));
        due("first(0)", NONE, x -> x.first(0));
    }
}
