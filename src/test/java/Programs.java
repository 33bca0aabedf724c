import java.util.Collections;
import java.util.List;

/** The OPS by name, and METHODS made of them in one go. */
final class Programs {
    static final int SET = 0, COPY = 1, ADD = 2, LESS = 3, TIMES = 4, OVER = 5, REST = 6, AND = 7;
    static final int XOR = 8, BELOW = 9, SKIP = 10, GO = 11, TELL = 12, CALL = 13, RETURN = 14, THROW = 15;

    private static final List<String> NAMES = List.of("SET", "COPY", "ADD", "LESS", "TIMES", "OVER", "REST", "AND",
            "XOR", "BELOW", "SKIP", "GO", "TELL", "CALL", "RETURN", "THROW");

    static final int OPS = 16;
    /** What an OP takes: r register, v number, l line, p port, m method, k kind, - not named. */
    private static final String[] SHAPES = {
        "rv-", "rr-", "rrr", "rrr", "rrr", "rrr", "rrr", "rrr", "rrr", "rrr", "rl-", "l--", "pr-", "rmr", "r--", "kr-",
    };

    private Programs() {
    }

    static boolean isNamed(int op, int place) {
        return SHAPES[op].charAt(place) != '-';
    }

    static int least(int op, int place) {
        return SHAPES[op].charAt(place) == 'k' ? 2 : 0;
    }

    static int most(int op, int place, int bits) {
        switch (SHAPES[op].charAt(place)) {
            case 'r': case 'm': return 5;
            case 'v': return (1 << bits) - 1;
            case 'l': return 24;
            case 'p': return 3;
            default: return 7;
        }
    }

    /** Operands that fit the OP. */
    static int[] leastOperands(int op) {
        return new int[] {least(op, 0), least(op, 1), least(op, 2)};
    }

    static int[] line(int... opAndOperands) {
        int[] whole = new int[4];
        System.arraycopy(opAndOperands, 0, whole, 0, opAndOperands.length);
        return whole;
    }

    /** A new METHOD of these OPS: its number. */
    static int make(EqualMethods x, int build, int[]... lines) {
        int method = x.method(build);
        fill(x, build, method, lines);
        return method;
    }

    /** The METHOD's OPS go, and these come. */
    static void remake(EqualMethods x, int build, int method, int[]... lines) {
        x.clear(build, method);
        fill(x, build, method, lines);
    }

    /** OPS as the document writes them, such as "SET 2 3; RETURN 2"; none of an empty text. */
    static int[][] parse(String text) {
        if (text.isEmpty()) {
            return new int[0][];
        }
        String[] parts = text.split("; ");
        int[][] lines = new int[parts.length][4];
        for (int i = 0; i < parts.length; i++) {
            String[] words = parts[i].split(" ");
            lines[i][0] = NAMES.indexOf(words[0]);
            for (int place = 1; place < words.length; place++) {
                lines[i][place] = Integer.parseInt(words[place]);
            }
        }
        return lines;
    }

    static int make(EqualMethods x, int build, String text) {
        return make(x, build, parse(text));
    }

    static void remake(EqualMethods x, int build, int method, String text) {
        remake(x, build, method, parse(text));
    }

    /** The text so many times in a row. */
    static String times(int count, String text) {
        return String.join("; ", Collections.nCopies(count, text));
    }

    private static void fill(EqualMethods x, int build, int method, int[]... lines) {
        for (int[] line : lines) {
            if (x.op(build, method, line[0], line[1], line[2], line[3]) < 0) {
                throw new IllegalStateException("an OP of a test was refused");
            }
        }
    }
}
