import java.util.ArrayList;
import java.util.List;
import java.util.Random;

/** Promises 1 to 18: runs of drawn calls, each answer held against the Oracle's. */
public final class OracleTest {
    private static final Check CHECK = new Check("OracleTest");
    private static final int RUNS = 600;
    private static final int CALLS = 512;
    private static final int NEVER = -9;
    private static final int[] ODD_NUMBERS = {
        -1, -2, 4, 6, 7, 8, 12, 16, 24, 25, 41, 101, -101, Integer.MIN_VALUE, Integer.MAX_VALUE,
    };
    private static final int[] OFTEN = {0, 1, 2, 3, 4, 5, 6, 7, 8, 9, 10, 10, 11, 12, 12, 12, 12, 13, 13, 13, 13, 14, 15};
    private static final String[] WATCHED = {"run", "hold", "match", "find", "prove"};
    private static final int[][] SEEN = new int[WATCHED.length][4];

    private final int seed;
    private final Random random;
    private final EqualMethods x;
    private final Oracle oracle;
    private final int numbers;
    /** Whether METHODS of the same number are twins and PAIRS, so that prove() seldom answers 0. */
    private final boolean paired;
    private int calls = 0;

    private OracleTest(int seed) {
        this.seed = seed;
        paired = seed / 2 % 2 == 0;
        random = new Random(seed);
        x = new EqualMethods(seed);
        oracle = new Oracle(seed);
        numbers = 1 << oracle.count(3);
    }

    public static void main(String[] args) {
        int runs = args.length == 0 ? RUNS : Integer.parseInt(args[0]);
        for (int i = 0; i < runs; i++) {
            new OracleTest(i - runs / 2).drawRun();
        }
        for (int i = 0; i < WATCHED.length; i++) {
            int[] seen = SEEN[i];
            System.out.println("OracleTest: " + WATCHED[i] + " answered NONE " + seen[0] + " times, 0 " + seen[1]
                    + ", 1 " + seen[2] + ", more " + seen[3]);
        }
        CHECK.end();
    }

    private int below(int bound) {
        return random.nextInt(bound);
    }

    /** A number below the bound, seldom one that is not. */
    private int near(int bound) {
        return below(40) == 0 ? ODD_NUMBERS[below(ODD_NUMBERS.length)] : below(bound);
    }

    private void due(String call, int want, int got) {
        calls++;
        CHECK.due("seed " + seed + ", call " + calls + ", " + call, want, got);
    }

    private void watched(int row, String call, int want, int got) {
        due(WATCHED[row] + call, want, got);
        if (got >= EqualMethods.NONE) {
            SEEN[row][Math.min(got, 2) + 1]++;
        }
    }

    private void drawRun() {
        for (int i = below(3); i < 3; i++) {
            newMethod(0);
            newMethod(1);
        }
        while (calls < CALLS - 60) {
            twins();
            if (paired) {
                assumeAll();
            }
            for (int i = 0; i < 5; i++) {
                ask();
            }
        }
    }

    private void newMethod(int build) {
        due("method(" + build + ")", oracle.method(build), x.method(build));
    }

    private void assumed(int a, int b) {
        due("assume(" + a + ", " + b + ")", oracle.assume(a, b), x.assume(a, b));
    }

    private void assumeAll() {
        if (oracle.count(2) < 2 || below(4) == 0) {
            due("drop()", oracle.drop(), x.drop());
            for (int m = 0; m < Math.min(oracle.count(0), oracle.count(1)); m++) {
                assumed(m, m);
            }
        }
    }

    private void append(int build, int method, int... line) {
        String call = "op(" + build + ", " + method + ", " + line[0] + ", " + line[1] + ", " + line[2] + ", " + line[3] + ")";
        due(call, oracle.op(build, method, line[0], line[1], line[2], line[3]),
                x.op(build, method, line[0], line[1], line[2], line[3]));
    }

    private void clear(int build, int method) {
        due("clear(" + build + ", " + method + ")", oracle.clear(build, method), x.clear(build, method));
    }

    private int[] drawLine(int line) {
        int r = below(6), s = below(3), t = below(6);
        int op = OFTEN[below(OFTEN.length)];
        int target = below(8) == 0 ? below(25) : line + 1 + below(4);
        switch (op) {
            case 0: return new int[] {op, r, below(numbers), 0};
            case 10: return new int[] {op, s, target, 0};
            case 11: return new int[] {op, target, 0, 0};
            case 12: return new int[] {op, below(4), s, 0};
            case 13: return new int[] {op, r, below(below(8) == 0 ? 6 : 2), t};
            case 14: return new int[] {op, s, 0, 0};
            case 15: return new int[] {op, 2 + below(6), s, 0};
            default: return new int[] {op, r, s, t};
        }
    }

    /** Two METHODS of the same OPS but for a change now and then, so that they are often LIKE. */
    private void twins() {
        int a = below(oracle.count(0));
        int b = paired && a < oracle.count(1) ? a : below(oracle.count(1));
        clear(0, a);
        clear(1, b);
        int size = below(paired ? 14 : 8);
        List<int[]> lines = new ArrayList<>();
        for (int i = 0; i < size; i++) {
            lines.add(drawLine(i));
            append(0, a, lines.get(i));
        }
        int change = below(paired ? 12 : 3) == 0 ? below(10) : NEVER;
        int swap = below(paired ? 12 : 3) == 0 ? below(10) : NEVER;
        if (change >= 0 && change < size) {
            lines.set(change, drawLine(change));
        }
        if (swap >= 0 && swap + 1 < size) {
            lines.add(swap, lines.remove(swap + 1));
        }
        for (int[] line : lines) {
            append(1, b, line);
        }
    }

    private void ask() {
        int a = near(3), b = near(3), p = near(4), q = near(4);
        switch (below(20)) {
            case 0:
                newMethod(near(2));
                break;
            case 1:
                append(near(2), b, near(16), near(6), near(6), near(6));
                break;
            case 2:
                clear(near(2), near(6));
                break;
            case 3: case 4: case 5:
                runAndLook(near(2), b, near(numbers), near(numbers));
                break;
            case 6:
                // What is told by twins is LIKE no more where PORTS are renamed.
                if (paired && below(8) != 0) {
                    break;
                }
                due("rename(" + p + ", " + q + ")", oracle.rename(p, q), x.rename(p, q));
                break;
            case 7:
                due("group(" + p + ", " + q + ")", oracle.group(p, q), x.group(p, q));
                break;
            case 8: case 9: case 10:
                watched(1, "(" + a + ", " + b + ")", oracle.hold(a, b), x.hold(a, b));
                look();
                break;
            case 11:
                watched(2, "(" + a + ")", oracle.match(a), x.match(a));
                break;
            case 12:
                watched(3, "(" + a + ", " + b + ")", oracle.find(a, b), x.find(a, b));
                break;
            case 13: case 14: case 15:
                assumed(a, paired && below(8) != 0 ? a : b);
                break;
            case 16:
                due("drop()", oracle.drop(), x.drop());
                break;
            case 17: case 18:
                watched(4, "()", oracle.prove(), x.prove());
                look();
                break;
            default:
                look();
        }
    }

    private void runAndLook(int build, int method, int first, int second) {
        String call = "(" + build + ", " + method + ", " + first + ", " + second + ")";
        watched(0, call, oracle.run(build, method, first, second), x.run(build, method, first, second));
        for (int what = 0; what < 5; what++) {
            due("ran(" + what + ")", oracle.ran(what), x.ran(what));
        }
    }

    private void look() {
        int place = near(5), other = near(2), tell = near(8), side = near(2), counted = near(12), run = near(5);
        due("first(" + other + ")", oracle.first(other), x.first(other));
        due("why(" + place + ")", oracle.why(place), x.why(place));
        due("told(" + tell + ", " + side + ")", oracle.told(tell, side), x.told(tell, side));
        due("count(" + counted + ")", oracle.count(counted), x.count(counted));
        due("ran(" + run + ")", oracle.ran(run), x.ran(run));
    }
}
