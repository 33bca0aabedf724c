/** Promises 14 to 17: assume, drop, prove, why. */
public final class ProveTest {
    private static final Check CHECK = new Check("ProveTest");
    private static final int MIN = Integer.MIN_VALUE, MAX = Integer.MAX_VALUE;
    private static final int NONE = EqualMethods.NONE, UNKNOWN = EqualMethods.UNKNOWN;

    public static void main(String[] args) {
        assumes();
        withoutCalls();
        answersComeInOrder();
        callingsMustBePairs();
        callingsMustBeAsMany();
        callingsMustHaveTheSameInputs();
        tellsBetweenCallings();
        thirdCallingIsOpen();
        spentIsOpen();
        missingIsNoCalling();
        firstByPairs();
        whyOfTheLatest();
        provesWhatHoldCannot();
        CHECK.end();
    }

    private static void dueWhy(EqualMethods x, String proof, int... want) {
        for (int what = 0; what < 5; what++) {
            CHECK.due(proof + ": why(" + what + ")", want.length == 0 ? NONE : want[what], x.why(what));
        }
    }

    /** "A PAIR is ASSUMED: its number. UNKNOWN; STATE: it is already; ROOM."; "how many were". */
    private static void assumes() {
        EqualMethods x = new EqualMethods(2);
        x.method(0);
        CHECK.due("no METHOD of BUILD 1", UNKNOWN, x.assume(0, 0));
        for (int i = 0; i < 5; i++) {
            x.method(0);
            x.method(1);
        }
        int[] wrong = {-1, 6, MIN, MAX};
        for (int method : wrong) {
            CHECK.due("assume(" + method + ", 0)", UNKNOWN, x.assume(method, 0));
            CHECK.due("assume(0, " + method + ")", UNKNOWN, x.assume(0, method));
        }
        CHECK.due("assume(0, 5)", UNKNOWN, x.assume(0, 5));
        CHECK.due("no PAIRS", 0, x.count(2));
        int[][] pairs = {{0, 0}, {0, 1}, {1, 0}, {5, 4}, {4, 4}, {2, 3}};
        for (int i = 0; i < 6; i++) {
            CHECK.due("assume " + i, i, x.assume(pairs[i][0], pairs[i][1]));
            CHECK.due("count(2)", i + 1, x.count(2));
            CHECK.due("assume " + i + " again", EqualMethods.STATE, x.assume(pairs[i][0], pairs[i][1]));
            CHECK.due("count(2)", i + 1, x.count(2));
        }
        CHECK.due("7th PAIR", EqualMethods.ROOM, x.assume(3, 3));
        CHECK.due("STATE ahead of ROOM", EqualMethods.STATE, x.assume(0, 0));
        CHECK.due("UNKNOWN ahead of ROOM", UNKNOWN, x.assume(6, 6));
        CHECK.due("drop()", 6, x.drop());
        CHECK.due("count(2)", 0, x.count(2));
        CHECK.due("drop() again", 0, x.drop());
        CHECK.due("assume(2, 3) behind drop()", 0, x.assume(2, 3));
        CHECK.due("METHODS stay", 6, x.count(0));
    }

    /** "1: each ASSUMED PAIR HOLDS; 0: some two WALKS .. are not LIKE": without CALLINGS. */
    private static void withoutCalls() {
        EqualMethods x = new EqualMethods(3);
        int a = Programs.make(x, 0, Programs.line(Programs.ADD, 0, 0, 1), Programs.line(Programs.RETURN, 0));
        int b = Programs.make(x, 1, Programs.line(Programs.ADD, 1, 1, 0), Programs.line(Programs.RETURN, 1));
        CHECK.due("no PAIR", NONE, x.prove());
        x.assume(a, b);
        CHECK.due("LIKE", 1, x.prove());
        dueWhy(x, "LIKE");
        Programs.remake(x, 1, b, Programs.line(Programs.XOR, 1, 1, 0), Programs.line(Programs.RETURN, 1));
        CHECK.due("not LIKE", 0, x.prove());
        dueWhy(x, "not LIKE", 0, 1, 1, 0, 0);
        Programs.remake(x, 1, b, Programs.line(Programs.ADD, 1, 1, 0), Programs.line(Programs.TELL, 0, 0),
                Programs.line(Programs.RETURN, 1));
        CHECK.due("told more", 0, x.prove());
        dueWhy(x, "told more", 0, 0, 0, 0, 0);
        Programs.remake(x, 1, b, Programs.line(Programs.ADD, 1, 1, 0), Programs.line(Programs.THROW, 2, 1));
        CHECK.due("a THROW is no RETURN", 0, x.prove());
    }

    /** A METHOD of BUILD 0 that returns 1, if its two ANSWERS are these, else 0, and one of BUILD 1 that returns 0. */
    private static void answersComeInOrder() {
        for (int bits = 2; bits <= 3; bits++) {
            int numbers = 1 << bits;
            for (int one = 0; one < numbers; one++) {
                EqualMethods x = new EqualMethods(bits);
                int a = x.method(0);
                int b = Programs.make(x, 1, Programs.line(Programs.CALL, 2, 0, 0), Programs.line(Programs.CALL, 3, 0, 0));
                x.assume(a, b);
                for (int two = 0; two < numbers; two++) {
                    Programs.remake(x, 0, a, Programs.line(Programs.CALL, 2, 0, 0), Programs.line(Programs.CALL, 3, 0, 0),
                            Programs.line(Programs.SET, 4, one), Programs.line(Programs.SET, 5, two),
                            Programs.line(Programs.XOR, 4, 4, 2), Programs.line(Programs.XOR, 5, 5, 3),
                            Programs.line(Programs.SKIP, 4, 8), Programs.line(Programs.GO, 24),
                            Programs.line(Programs.SKIP, 5, 10), Programs.line(Programs.GO, 24),
                            Programs.line(Programs.SET, 0, 1), Programs.line(Programs.RETURN, 0));
                    CHECK.due("ANSWERS " + one + " " + two, 0, x.prove());
                    dueWhy(x, "ANSWERS " + one + " " + two, 0, 0, 0, one, two);
                }
                Programs.remake(x, 0, a, Programs.line(Programs.CALL, 2, 0, 0), Programs.line(Programs.CALL, 3, 0, 0));
                CHECK.due("what is answered is not looked at", 1, x.prove());
                thrownAnswers(x, a, b, numbers);
            }
        }
    }

    private static void thrownAnswers(EqualMethods x, int a, int b, int numbers) {
        Programs.remake(x, 0, a, Programs.line(Programs.CALL, 2, 0, 0), Programs.line(Programs.TELL, 0, 1),
                Programs.line(Programs.RETURN, 1));
        Programs.remake(x, 1, b, Programs.line(Programs.TELL, 0, 1), Programs.line(Programs.CALL, 2, 0, 0),
                Programs.line(Programs.RETURN, 1));
        CHECK.due("told behind, told ahead", 0, x.prove());
        dueWhy(x, "told behind, told ahead", 0, 0, 0, 0, 0);
        // The second CALLING comes only where the first returned, and what it throws goes out.
        Programs.remake(x, 0, a, Programs.line(Programs.CALL, 2, 0, 0), Programs.line(Programs.CALL, 3, 0, 0),
                Programs.line(Programs.RETURN, 3));
        Programs.remake(x, 1, b, Programs.line(Programs.CALL, 2, 0, 0), Programs.line(Programs.CALL, 4, 0, 0),
                Programs.line(Programs.RETURN, 4));
        CHECK.due("both go out alike", 1, x.prove());
        // Unlike only where the first ANSWER is thrown: KIND 9 with 0 against KIND 1 with 0.
        Programs.remake(x, 0, a, Programs.line(Programs.CALL, 2, 0, 0), Programs.line(Programs.OVER, 3, 3, 3));
        Programs.remake(x, 1, b, Programs.line(Programs.OVER, 3, 3, 3));
        CHECK.due("KIND 9, KIND 1", 0, x.prove());
        dueWhy(x, "KIND 9, KIND 1: a CALLING more", 0, 0, 0, 0, 0);
        Programs.remake(x, 0, a, Programs.line(Programs.CALL, 0, 0, 0), Programs.line(Programs.GO, 1));
        Programs.remake(x, 1, b, Programs.line(Programs.CALL, 0, 0, 1), Programs.line(Programs.GO, 1));
        CHECK.due("unlike only where KIND 9 ends it", 0, x.prove());
        dueWhy(x, "unlike only where KIND 9 ends it", 0, 0, 1, numbers, 0);
        Programs.remake(x, 0, a, Programs.line(Programs.CALL, 2, 0, 0), Programs.line(Programs.CALL, 0, 0, 0),
                Programs.line(Programs.GO, 2));
        Programs.remake(x, 1, b, Programs.line(Programs.CALL, 2, 0, 0), Programs.line(Programs.CALL, 0, 0, 1),
                Programs.line(Programs.GO, 2));
        CHECK.due("unlike only where KIND 9 ends the second", 0, x.prove());
        dueWhy(x, "unlike only where KIND 9 ends the second", 0, 0, 0, 1, numbers);
    }

    /** "each of METHODS that are an ASSUMED PAIR". */
    private static void callingsMustBePairs() {
        EqualMethods x = new EqualMethods(2);
        int a = Programs.make(x, 0, Programs.line(Programs.CALL, 2, 1, 0), Programs.line(Programs.RETURN, 2));
        int b = Programs.make(x, 1, Programs.line(Programs.CALL, 3, 2, 0), Programs.line(Programs.RETURN, 3));
        x.method(0);
        x.method(0);
        x.method(1);
        x.method(1);
        x.assume(a, b);
        CHECK.due("not ASSUMED", 0, x.prove());
        x.assume(2, 1);
        CHECK.due("the other way round", 0, x.prove());
        x.assume(1, 1);
        x.assume(2, 2);
        CHECK.due("each in another PAIR", 0, x.prove());
        dueWhy(x, "each in another PAIR", 0, 0, 0, 0, 0);
        CHECK.due("assume(1, 2)", 4, x.assume(1, 2));
        CHECK.due("ASSUMED", 1, x.prove());
        CHECK.due("drop", 5, x.drop());
        x.assume(a, b);
        CHECK.due("no longer ASSUMED", 0, x.prove());
        Programs.remake(x, 0, a, Programs.line(Programs.CALL, 2, 0, 0), Programs.line(Programs.CALL, 2, 1, 0));
        Programs.remake(x, 1, b, Programs.line(Programs.CALL, 2, 0, 0), Programs.line(Programs.CALL, 2, 1, 0));
        CHECK.due("the second one is not ASSUMED", 0, x.prove());
        x.assume(1, 1);
        CHECK.due("both are ASSUMED", 1, x.prove());
    }

    /** "if they have as many CALLINGS". */
    private static void callingsMustBeAsMany() {
        EqualMethods x = new EqualMethods(2);
        int a = Programs.make(x, 0, Programs.line(Programs.CALL, 2, 0, 0));
        int b = Programs.make(x, 1);
        x.assume(a, b);
        CHECK.due("one and none", 0, x.prove());
        Programs.remake(x, 1, b, Programs.line(Programs.CALL, 2, 0, 0), Programs.line(Programs.CALL, 2, 0, 0));
        CHECK.due("one and two", 0, x.prove());
        dueWhy(x, "one and two", 0, 0, 0, 0, 0);
        Programs.remake(x, 0, a);
        Programs.remake(x, 1, b, Programs.line(Programs.CALL, 2, 0, 0));
        CHECK.due("none and one", 0, x.prove());
        Programs.remake(x, 0, a, Programs.line(Programs.CALL, 2, 0, 0));
        CHECK.due("one and one", 1, x.prove());
    }

    /** "with the same inputs". */
    private static void callingsMustHaveTheSameInputs() {
        EqualMethods x = new EqualMethods(2);
        int a = Programs.make(x, 0, Programs.line(Programs.CALL, 2, 0, 0), Programs.line(Programs.RETURN, 2));
        int b = Programs.make(x, 1, Programs.line(Programs.COPY, 5, 0), Programs.line(Programs.COPY, 0, 1),
                Programs.line(Programs.CALL, 2, 0, 5), Programs.line(Programs.RETURN, 2));
        x.assume(a, b);
        CHECK.due("behind REGISTER 5 comes REGISTER 0", 1, x.prove());
        Programs.remake(x, 1, b, Programs.line(Programs.SET, 1, 2), Programs.line(Programs.CALL, 2, 0, 0),
                Programs.line(Programs.RETURN, 2));
        CHECK.due("another y", 0, x.prove());
        dueWhy(x, "another y", 0, 0, 0, 0, 0);
        Programs.remake(x, 1, b, Programs.line(Programs.SET, 3, 2), Programs.line(Programs.AND, 0, 0, 3),
                Programs.line(Programs.CALL, 2, 0, 0), Programs.line(Programs.RETURN, 2));
        CHECK.due("another x", 0, x.prove());
        dueWhy(x, "another x", 0, 1, 0, 0, 0);
        Programs.remake(x, 0, a, Programs.line(Programs.CALL, 0, 0, 0), Programs.line(Programs.CALL, 2, 0, 0));
        Programs.remake(x, 1, b, Programs.line(Programs.CALL, 3, 0, 0), Programs.line(Programs.CALL, 2, 0, 0));
        CHECK.due("another x of the second", 0, x.prove());
        dueWhy(x, "another x of the second", 0, 0, 0, 1, 0);
    }

    /** "the TELLS ahead of the first one, between them, behind the last one are LIKE". */
    private static void tellsBetweenCallings() {
        EqualMethods x = new EqualMethods(2);
        int[] call = Programs.line(Programs.CALL, 2, 0, 0);
        int[] tell = Programs.line(Programs.TELL, 1, 0);
        int[] other = Programs.line(Programs.TELL, 2, 0);
        int a = Programs.make(x, 0, tell, other, call, tell, call, other);
        int b = Programs.make(x, 1, tell, other, call, tell, call, other);
        x.assume(a, b);
        CHECK.due("the same", 1, x.prove());
        int[][][] unlike = {
            {other, tell, call, tell, call, other},
            {tell, call, other, tell, call, other},
            {tell, other, tell, call, call, other},
            {tell, other, call, call, tell, other},
            {tell, other, call, tell, other, call},
            {tell, other, call, tell, call},
            {tell, other, call, tell, call, other, other},
            {tell, other, call, other, call, other},
        };
        for (int i = 0; i < unlike.length; i++) {
            Programs.remake(x, 1, b, unlike[i]);
            CHECK.due("unlike " + i, 0, x.prove());
        }
        x.group(2, 1);
        Programs.remake(x, 1, b, unlike[0]);
        CHECK.due("GROUPS count ahead of a CALLING", 1, x.prove());
        Programs.remake(x, 1, b, unlike[1]);
        CHECK.due("a TELL across a CALLING, whatever its GROUP", 0, x.prove());
        Programs.remake(x, 1, b, other, tell, call, other, call, tell);
        CHECK.due("not renamed", 0, x.prove());
        x.rename(1, 2);
        CHECK.due("renamed", 1, x.prove());
    }

    /** "else 2": by a third CALLING. */
    private static void thirdCallingIsOpen() {
        EqualMethods x = new EqualMethods(2);
        int[] call = Programs.line(Programs.CALL, 2, 0, 0);
        int a = Programs.make(x, 0, call, call, call);
        int b = Programs.make(x, 1, call, call, call);
        x.assume(a, b);
        CHECK.due("three CALLINGS", 2, x.prove());
        dueWhy(x, "three CALLINGS", 0, 0, 0, 0, 0);
        Programs.remake(x, 1, b, call, call);
        CHECK.due("three and two", 2, x.prove());
        Programs.remake(x, 0, a, call, call, Programs.line(Programs.SKIP, 1, 4), call);
        Programs.remake(x, 1, b, call, call, Programs.line(Programs.SKIP, 1, 4), call);
        CHECK.due("three, if y is not 0", 2, x.prove());
        dueWhy(x, "three, if y is not 0", 0, 0, 1, 0, 0);
        Programs.remake(x, 1, b, call, call, Programs.line(Programs.SKIP, 1, 4), call, Programs.line(Programs.RETURN, 0));
        CHECK.due("unlike behind an OPEN one", 0, x.prove());
        dueWhy(x, "unlike behind an OPEN one", 0, 1, 0, 0, 0);
    }

    /** "else 2": by a WALK that would be SPENT. */
    private static void spentIsOpen() {
        EqualMethods x = new EqualMethods(2);
        int[] round = Programs.line(Programs.GO, 0);
        int a = Programs.make(x, 0, round);
        int b = Programs.make(x, 1, round);
        x.assume(a, b);
        CHECK.due("OPS without end", 2, x.prove());
        dueWhy(x, "OPS without end", 0, 0, 0, 0, 0);
        Programs.remake(x, 0, a, Programs.line(Programs.TELL, 0, 0), round);
        Programs.remake(x, 1, b);
        CHECK.due("TELLS without end", 2, x.prove());
        Programs.remake(x, 0, a, Programs.line(Programs.SKIP, 0, 0));
        CHECK.due("one SPENT, if x is 0", 2, x.prove());
        dueWhy(x, "one SPENT, if x is 0", 0, 0, 0, 0, 0);
        Programs.remake(x, 0, a);
        Programs.remake(x, 1, b, Programs.line(Programs.BELOW, 2, 1, 0), Programs.line(Programs.SKIP, 2, 3), round);
        CHECK.due("BUILD 1 SPENT, if y is below x", 2, x.prove());
        dueWhy(x, "BUILD 1 SPENT, if y is below x", 0, 1, 0, 0, 0);
        Programs.remake(x, 0, a, Programs.line(Programs.CALL, 2, 0, 0), Programs.line(Programs.SET, 3, 2),
                Programs.line(Programs.LESS, 3, 3, 2), Programs.line(Programs.SKIP, 3, 3));
        Programs.remake(x, 1, b, Programs.line(Programs.CALL, 2, 0, 0));
        CHECK.due("SPENT by an ANSWER", 2, x.prove());
        dueWhy(x, "SPENT by an ANSWER", 0, 0, 0, 2, 0);
    }

    /** "(CALL of one that is not there: as told.)" */
    private static void missingIsNoCalling() {
        EqualMethods x = new EqualMethods(3);
        int[] call = Programs.line(Programs.CALL, 2, 0, 0);
        int a = Programs.make(x, 0, call, call, Programs.line(Programs.CALL, 2, 4, 0));
        int b = Programs.make(x, 1, call, call, Programs.line(Programs.CALL, 3, 4, 1));
        x.assume(a, b);
        CHECK.due("THROW of KIND 8 behind two CALLINGS", 1, x.prove());
        Programs.remake(x, 1, b, call, call, Programs.line(Programs.CALL, 3, 5, 1));
        CHECK.due("with another number", 0, x.prove());
        Programs.remake(x, 0, a, Programs.line(Programs.CALL, 2, 4, 0));
        Programs.remake(x, 1, b, Programs.line(Programs.CALL, 2, 4, 1));
        CHECK.due("no inputs to compare", 1, x.prove());
    }

    /** "of the first such WALKS (the first with an OPEN one), by PAIRS". */
    private static void firstByPairs() {
        EqualMethods x = new EqualMethods(3);
        int same = x.method(0);
        int open = Programs.make(x, 0, Programs.line(Programs.SKIP, 0, 2), Programs.line(Programs.GO, 1));
        int unlike = Programs.make(x, 0, Programs.line(Programs.RETURN, 1));
        int sameToo = x.method(1);
        x.assume(same, sameToo);
        x.assume(open, sameToo);
        CHECK.due("the second PAIR is OPEN", 2, x.prove());
        dueWhy(x, "the second PAIR is OPEN", 1, 1, 0, 0, 0);
        x.assume(unlike, sameToo);
        CHECK.due("the third PAIR is unlike", 0, x.prove());
        dueWhy(x, "the third PAIR is unlike", 2, 0, 1, 0, 0);
        Programs.remake(x, 0, same, Programs.line(Programs.RETURN, 0));
        CHECK.due("the first PAIR is unlike too", 0, x.prove());
        dueWhy(x, "the first PAIR is unlike too", 0, 1, 0, 0, 0);
    }

    /** "Of the latest prove(), that answered 0 (2) .. NONE without. UNKNOWN." */
    private static void whyOfTheLatest() {
        EqualMethods x = new EqualMethods(2);
        int a = Programs.make(x, 0, Programs.line(Programs.RETURN, 0));
        int b = x.method(1);
        x.assume(a, b);
        CHECK.due("prove()", 0, x.prove());
        Programs.remake(x, 0, a);
        x.drop();
        dueWhy(x, "still of the latest prove()", 0, 1, 0, 0, 0);
        int[] wrong = {-1, 5, MIN, MAX};
        for (int what : wrong) {
            CHECK.due("why(" + what + ")", UNKNOWN, x.why(what));
        }
        CHECK.due("prove() without a PAIR", NONE, x.prove());
        dueWhy(x, "prove() without a PAIR");
        CHECK.due("UNKNOWN ahead of NONE", UNKNOWN, x.why(5));
        x.assume(a, b);
        CHECK.due("prove()", 1, x.prove());
        dueWhy(x, "prove() that answered 1");
    }

    /** "no CALL begins another METHOD". */
    private static void provesWhatHoldCannot() {
        EqualMethods x = new EqualMethods(1);
        int[] again = Programs.line(Programs.CALL, 2, 0, 0);
        int a = Programs.make(x, 0, Programs.line(Programs.TELL, 0, 0), again, Programs.line(Programs.RETURN, 2));
        int b = Programs.make(x, 1, Programs.line(Programs.TELL, 0, 0), again, Programs.line(Programs.RETURN, 2));
        x.assume(a, b);
        CHECK.due("hold", 2, x.hold(a, b));
        CHECK.due("prove", 1, x.prove());
    }
}
