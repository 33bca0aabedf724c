import java.util.ArrayList;
import java.util.HashMap;
import java.util.List;
import java.util.Map;

/** The document told once more, as plainly as the Java library allows; it is slow and keeps everything as lists. */
final class Oracle {
    private static final int NONE = -1, UNKNOWN = -101, OUTSIDE = -102, STATE = -103, ROOM = -104;

    private static final class Spent extends Exception {
        private static final long serialVersionUID = 1L;
    }

    private static final class Thrown extends Exception {
        private static final long serialVersionUID = 1L;
        final int kind;
        final int number;

        Thrown(int kind, int number) {
            this.kind = kind;
            this.number = number;
        }
    }

    /** One RUN or WALK: the rows of what was told (one more than CALLINGS), the CALLINGS and the end. */
    private final class Way {
        final List<List<int[]>> rows = new ArrayList<>();
        final List<int[]> callings = new ArrayList<>();
        final int[] answers;
        int end;
        int kind;
        int number;
        int ops;
        int tells;
        int deepest;

        Way(int build, int method, int x, int y, int... answers) {
            this.answers = answers;
            rows.add(new ArrayList<>());
            try {
                number = go(build, method, x, y, 1);
                end = 0;
            } catch (Thrown thrown) {
                kind = thrown.kind;
                number = thrown.number;
                end = 1;
            } catch (Spent spent) {
                end = 2;
            }
        }

        private int go(int build, int method, int x, int y, int depth) throws Spent, Thrown {
            if (depth > 8) {
                throw new Spent();
            }
            deepest = Math.max(deepest, depth);
            int[] r = {x, y, 0, 0, 0, 0};
            List<int[]> lines = builds.get(build).get(method);
            int at = 0;
            while (at < lines.size()) {
                int[] line = lines.get(at);
                int op = line[0], a = line[1], b = line[2], c = line[3];
                if (ops == 100 || op == 12 && tells == 40) {
                    throw new Spent();
                }
                ops++;
                at++;
                if (op == 0) {
                    r[a] = b;
                } else if (op == 1) {
                    r[a] = r[b];
                } else if (op <= 9) {
                    if ((op == 5 || op == 6) && r[c] == 0) {
                        throw new Thrown(1, 0);
                    }
                    int[] all = {0, 0, r[b] + r[c], r[b] - r[c], r[b] * r[c], r[c] == 0 ? 0 : r[b] / r[c],
                        r[c] == 0 ? 0 : r[b] % r[c], r[b] & r[c], r[b] ^ r[c], r[b] < r[c] ? 1 : 0};
                    r[a] = Math.floorMod(all[op], numbers);
                } else if (op == 10) {
                    at = r[a] == 0 ? b : at;
                } else if (op == 11) {
                    at = a;
                } else if (op == 12) {
                    tells++;
                    rows.get(rows.size() - 1).add(new int[] {a, r[b]});
                } else if (op == 13) {
                    r[a] = called(build, b, r[c], r[(c + 1) % 6], depth);
                } else if (op == 14) {
                    return r[a];
                } else {
                    throw new Thrown(a, r[b]);
                }
            }
            return 0;
        }

        private int called(int build, int method, int x, int y, int depth) throws Spent, Thrown {
            if (method >= builds.get(build).size()) {
                throw new Thrown(8, method % numbers);
            }
            if (answers.length == 0) {
                return go(build, method, x, y, depth + 1);
            }
            if (callings.size() == 2) {
                throw new Spent();
            }
            int answer = answers[callings.size()];
            callings.add(new int[] {method, x, y});
            rows.add(new ArrayList<>());
            if (answer == numbers) {
                throw new Thrown(9, 0);
            }
            return answer;
        }
    }

    private final int bits;
    private final int numbers;
    private final List<List<List<int[]>>> builds = List.of(new ArrayList<>(), new ArrayList<>());
    private final int[] stands = {0, 1, 2, 3};
    private final int[] groups = new int[4];
    private final List<int[]> pairs = new ArrayList<>();
    private Way latest;
    private int[] first = {NONE, NONE};
    private int[] why = {NONE, NONE, NONE, NONE, NONE};

    Oracle(int number) {
        bits = Math.floorMod(number, 2) == 1 ? 3 : 2;
        numbers = bits == 3 ? 8 : 4;
    }

    private boolean unknown(int build, int method) {
        return build != 0 && build != 1 || method < 0 || method >= builds.get(build).size();
    }

    private static boolean out(int number, int lowest, int highest) {
        return number < lowest || number > highest;
    }

    int method(int build) {
        if (out(build, 0, 1)) {
            return UNKNOWN;
        }
        if (builds.get(build).size() == 6) {
            return ROOM;
        }
        builds.get(build).add(new ArrayList<>());
        return builds.get(build).size() - 1;
    }

    private boolean outside(int op, int a, int b, int c) {
        switch (op) {
            case 0: return out(a, 0, 5) || out(b, 0, numbers - 1);
            case 1: return out(a, 0, 5) || out(b, 0, 5);
            case 10: return out(a, 0, 5) || out(b, 0, 24);
            case 11: return out(a, 0, 24);
            case 12: return out(a, 0, 3) || out(b, 0, 5);
            case 14: return out(a, 0, 5);
            case 15: return out(a, 2, 7) || out(b, 0, 5);
            default: return out(op, 0, 15) || out(a, 0, 5) || out(b, 0, 5) || out(c, 0, 5);
        }
    }

    int op(int build, int method, int op, int a, int b, int c) {
        if (unknown(build, method)) {
            return UNKNOWN;
        }
        if (outside(op, a, b, c)) {
            return OUTSIDE;
        }
        List<int[]> lines = builds.get(build).get(method);
        if (lines.size() == 24) {
            return ROOM;
        }
        lines.add(new int[] {op, a, b, c});
        return lines.size() - 1;
    }

    int clear(int build, int method) {
        if (unknown(build, method)) {
            return UNKNOWN;
        }
        int were = builds.get(build).get(method).size();
        builds.get(build).get(method).clear();
        return were;
    }

    int run(int build, int method, int x, int y) {
        if (unknown(build, method)) {
            return UNKNOWN;
        }
        if (out(x, 0, numbers - 1) || out(y, 0, numbers - 1)) {
            return OUTSIDE;
        }
        latest = new Way(build, method, x, y);
        return latest.end;
    }

    int ran(int what) {
        if (out(what, 0, 4)) {
            return UNKNOWN;
        }
        return latest == null ? 0
                : new int[] {latest.number, latest.kind, latest.ops, latest.tells, latest.deepest}[what];
    }

    int told(int i, int what) {
        if (out(what, 0, 1)) {
            return UNKNOWN;
        }
        return latest == null || out(i, 0, latest.tells - 1) ? NONE : latest.rows.get(0).get(i)[what];
    }

    int rename(int p, int q) {
        if (out(p, 0, 3) || out(q, 0, 3)) {
            return UNKNOWN;
        }
        int was = stands[p];
        for (int other = 0; other < 4; other++) {
            if (stands[other] == q) {
                stands[other] = was;
            }
        }
        stands[p] = q;
        return was;
    }

    int group(int p, int g) {
        if (out(p, 0, 3)) {
            return UNKNOWN;
        }
        if (out(g, 0, 3)) {
            return OUTSIDE;
        }
        int was = groups[p];
        groups[p] = g;
        return was;
    }

    private boolean alike(List<int[]> row, List<int[]> other, int[] renaming) {
        Map<Integer, String> texts = new HashMap<>();
        Map<Integer, String> otherTexts = new HashMap<>();
        for (int[] tell : row) {
            texts.merge(groups[tell[0]], " " + renaming[tell[0]] + ":" + tell[1], String::concat);
        }
        for (int[] tell : other) {
            int p = 0;
            while (renaming[p] != tell[0]) {
                p++;
            }
            otherTexts.merge(groups[p], " " + tell[0] + ":" + tell[1], String::concat);
        }
        return texts.equals(otherTexts);
    }

    private static boolean endAlike(Way one, Way other) {
        return one.end == other.end && one.kind == other.kind && one.number == other.number;
    }

    /** The answer, and the FIRST inputs behind it. */
    private int[] held(int a, int b, int[] renaming) {
        boolean spent = false;
        for (int x = 0; x < numbers; x++) {
            for (int y = 0; y < numbers; y++) {
                Way one = new Way(0, a, x, y);
                Way other = new Way(1, b, x, y);
                if (one.end == 2 || other.end == 2) {
                    spent = true;
                } else if (!endAlike(one, other) || !alike(one.rows.get(0), other.rows.get(0), renaming)) {
                    return new int[] {0, x, y};
                }
            }
        }
        return new int[] {spent ? 2 : 1, NONE, NONE};
    }

    int hold(int a, int b) {
        if (unknown(0, a) || unknown(1, b)) {
            return UNKNOWN;
        }
        int[] answer = held(a, b, stands);
        first = new int[] {answer[1], answer[2]};
        return answer[0];
    }

    int first(int what) {
        return out(what, 0, 1) ? UNKNOWN : first[what];
    }

    int match(int a) {
        if (unknown(0, a)) {
            return UNKNOWN;
        }
        for (int b = 0; b < builds.get(1).size(); b++) {
            if (held(a, b, stands)[0] == 1) {
                return b;
            }
        }
        return NONE;
    }

    int find(int a, int b) {
        if (unknown(0, a) || unknown(1, b)) {
            return UNKNOWN;
        }
        for (int code = 0; code < 4444; code++) {
            int[] renaming = {code / 1000, code / 100 % 10, code / 10 % 10, code % 10};
            int seen = 0;
            for (int q : renaming) {
                seen |= 1 << q;
            }
            if (seen == 15 && held(a, b, renaming)[0] == 1) {
                return code;
            }
        }
        return NONE;
    }

    private boolean assumed(int a, int b) {
        return pairs.stream().anyMatch(pair -> pair[0] == a && pair[1] == b);
    }

    int assume(int a, int b) {
        if (unknown(0, a) || unknown(1, b)) {
            return UNKNOWN;
        }
        if (assumed(a, b)) {
            return STATE;
        }
        if (pairs.size() == 6) {
            return ROOM;
        }
        pairs.add(new int[] {a, b});
        return pairs.size() - 1;
    }

    int drop() {
        int were = pairs.size();
        pairs.clear();
        return were;
    }

    private boolean walksAlike(Way one, Way other) {
        if (!endAlike(one, other) || one.callings.size() != other.callings.size()) {
            return false;
        }
        for (int i = 0; i < one.callings.size(); i++) {
            int[] called = one.callings.get(i);
            int[] otherCalled = other.callings.get(i);
            if (!assumed(called[0], otherCalled[0]) || called[1] != otherCalled[1] || called[2] != otherCalled[2]) {
                return false;
            }
        }
        for (int i = 0; i < one.rows.size(); i++) {
            if (!alike(one.rows.get(i), other.rows.get(i), stands)) {
                return false;
            }
        }
        return true;
    }

    int prove() {
        why = new int[] {NONE, NONE, NONE, NONE, NONE};
        int[] open = null;
        for (int pair = 0; pair < pairs.size(); pair++) {
            for (int walk = 0; walk < numbers * numbers * (numbers + 1) * (numbers + 1); walk++) {
                int two = walk % (numbers + 1);
                int one = walk / (numbers + 1) % (numbers + 1);
                int y = walk / (numbers + 1) / (numbers + 1) % numbers;
                int x = walk / (numbers + 1) / (numbers + 1) / numbers;
                Way way = new Way(0, pairs.get(pair)[0], x, y, one, two);
                Way other = new Way(1, pairs.get(pair)[1], x, y, one, two);
                int[] here = {pair, x, y, one, two};
                if (way.end == 2 || other.end == 2) {
                    open = open == null ? here : open;
                } else if (!walksAlike(way, other)) {
                    why = here;
                    return 0;
                }
            }
        }
        why = open == null ? why : open;
        return pairs.isEmpty() ? NONE : open == null ? 1 : 2;
    }

    int why(int what) {
        return out(what, 0, 4) ? UNKNOWN : why[what];
    }

    int count(int what) {
        if (out(what, 0, 11)) {
            return UNKNOWN;
        }
        return new int[] {builds.get(0).size(), builds.get(1).size(), pairs.size(), bits, stands[0], stands[1],
            stands[2], stands[3], groups[0], groups[1], groups[2], groups[3]}[what];
    }
}
