/** The OPS by name, and METHODS made of them in one go. */
final class Programs {
    static final int SET = 0, COPY = 1, ADD = 2, LESS = 3, TIMES = 4, OVER = 5, REST = 6, AND = 7;
    static final int XOR = 8, BELOW = 9, SKIP = 10, GO = 11, TELL = 12, CALL = 13, RETURN = 14, THROW = 15;

    private Programs() {
    }

    static int[] line(int... opAndOperands) {
        int[] whole = new int[4];
        System.arraycopy(opAndOperands, 0, whole, 0, opAndOperands.length);
        return whole;
    }

    /** A new METHOD of these OPS: its number. */
    static int make(EqualMethods x, int build, int[]... lines) {
        int method = x.method(build);
        fill(x, build, method, lines);
        return method;
    }

    /** The METHOD's OPS go, and these come. */
    static void remake(EqualMethods x, int build, int method, int[]... lines) {
        x.clear(build, method);
        fill(x, build, method, lines);
    }

    private static void fill(EqualMethods x, int build, int method, int[]... lines) {
        for (int[] line : lines) {
            if (x.op(build, method, line[0], line[1], line[2], line[3]) < 0) {
                throw new IllegalStateException("an OP of a test was refused");
            }
        }
    }
}
