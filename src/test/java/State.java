import java.util.ArrayList;
import java.util.List;

/** All that the face tells of an object; asking for it uses the object up. */
final class State {
    private final EqualMethods x;
    private final List<String> calls = new ArrayList<>();
    private final List<Integer> answers = new ArrayList<>();

    State(EqualMethods x) {
        this.x = x;
        latest();
        runs();
        comparisons();
        sizes();
    }

    /** Every answer of this state has to be the other's. */
    void due(Check check, String behind, State want) {
        for (int i = 0; i < answers.size(); i++) {
            check.due(calls.get(i) + " " + behind, want.answers.get(i), answers.get(i));
        }
    }

    private void add(String call, int answer) {
        calls.add(call);
        answers.add(answer);
    }

    private void latest() {
        for (int what = 0; what < 12; what++) {
            add("count(" + what + ")", x.count(what));
        }
        for (int what = 0; what < 5; what++) {
            add("ran(" + what + ")", x.ran(what));
            add("why(" + what + ")", x.why(what));
        }
        for (int what = 0; what < 2; what++) {
            add("first(" + what + ")", x.first(what));
            for (int i = 0; i < 4; i++) {
                add("told(" + i + ", " + what + ")", x.told(i, what));
            }
        }
    }

    private void runs() {
        for (int build = 0; build < 2; build++) {
            for (int m = 0; m < 6; m++) {
                for (int y = 0; y < 2; y++) {
                    add("run(" + build + ", " + m + ", 1, " + y + ")", x.run(build, m, 1, y));
                    for (int what = 0; what < 5; what++) {
                        add("ran(" + what + ")", x.ran(what));
                    }
                }
            }
        }
    }

    private void comparisons() {
        for (int a = 0; a < 3; a++) {
            add("match(" + a + ")", x.match(a));
            for (int b = 0; b < 6; b++) {
                add("hold(" + a + ", " + b + ")", x.hold(a, b));
            }
        }
        add("find(0, 0)", x.find(0, 0));
        add("prove()", x.prove());
        for (int what = 0; what < 5; what++) {
            add("why(" + what + ")", x.why(what));
        }
        add("drop()", x.drop());
    }

    private void sizes() {
        for (int build = 0; build < 2; build++) {
            for (int m = 0; m < 6; m++) {
                add("clear(" + build + ", " + m + ")", x.clear(build, m));
            }
            add("method(" + build + ")", x.method(build));
        }
    }
}
