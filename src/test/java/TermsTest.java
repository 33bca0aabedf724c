/** The boundary cases that the document's Terms name: a method for each sentence, which stands above it. */
public final class TermsTest {
    private static final Check CHECK = new Check("TermsTest");
    private static final int MIN = Integer.MIN_VALUE, MAX = Integer.MAX_VALUE;
    private static final int OUTSIDE = EqualMethods.OUTSIDE;
    private static final int RETURNED = 0, THREW = 1, SPENT = 2;

    public static void main(String[] args) {
        lastCalls();
        for (int bits = 2; bits <= 3; bits++) {
            numbers(bits);
            numbersAreCut(bits);
            byZero(bits);
        }
        fullBuilds();
        registersAtTheBeginning();
        whatIsNotNamed();
        skips();
        goes();
        inputsOfCalls();
        returnsComeTo();
        throwsGoOut();
        kinds();
        behindTheLastLine();
        methodsNotThere();
        opsOfAllMethods();
        lastOps();
        tellsOfAllMethods();
        oneWithinTheOther();
        CHECK.end();
    }

    private static void dueRun(String run, EqualMethods x, int[] call, int... want) {
        CHECK.due(run, want[0], x.run(call[0], call[1], call[2], call[3]));
        for (int what = 0; what + 1 < want.length; what++) {
            CHECK.due(run + ": ran(" + what + ")", want[what + 1], x.ran(what));
        }
    }

    private static int[] call(int build, int method, int x, int y) {
        return new int[] {build, method, x, y};
    }

    /** "An object is used for at most 512 calls after it has been made". */
    private static void lastCalls() {
        EqualMethods x = new EqualMethods(3);
        x.method(0);
        x.method(1);
        x.op(0, 0, Programs.TELL, 3, 0, 0);
        x.op(1, 0, Programs.TELL, 3, 0, 0);
        x.assume(0, 0);
        for (int i = 5; i < 509; i++) {
            x.run(0, 0, i & 7, 0);
        }
        CHECK.due("call 510", 508 & 7, x.told(0, 1));
        CHECK.due("call 511", 1, x.hold(0, 0));
        CHECK.due("call 512", 1, x.prove());
    }

    /** "NUMBERS 0 .. 2^W - 1": as inputs, and for SET. */
    private static void numbers(int bits) {
        EqualMethods x = new EqualMethods(bits);
        int greatest = (1 << bits) - 1;
        Programs.make(x, 0, "RETURN 1");
        dueRun("the least", x, call(0, 0, 0, 0), RETURNED, 0);
        dueRun("the greatest", x, call(0, 0, greatest, greatest), RETURNED, greatest);
        for (int number : new int[] {-1, greatest + 1, MIN, MAX}) {
            dueRun("x " + number, x, call(0, 0, number, 0), OUTSIDE, greatest, 0, 1, 0, 1);
            dueRun("y " + number, x, call(0, 0, 0, number), OUTSIDE, greatest, 0, 1, 0, 1);
            CHECK.due("SET " + number, OUTSIDE, x.op(0, 0, Programs.SET, 0, number, 0));
        }
        CHECK.due("SET of the least", 1, x.op(0, 0, Programs.SET, 0, 0, 0));
        CHECK.due("SET of the greatest", 2, x.op(0, 0, Programs.SET, 0, greatest, 0));
    }

    /** "what comes is cut to them": what is told, called with, returned, thrown and looked at. */
    private static void numbersAreCut(int bits) {
        EqualMethods x = new EqualMethods(bits);
        int greatest = (1 << bits) - 1;
        Programs.make(x, 0, "SET 2 1; ADD 0 0 2; TELL 1 0; CALL 3 1 0; RETURN 3");
        Programs.make(x, 0, "TELL 2 0; RETURN 0");
        dueRun("one above the greatest", x, call(0, 0, greatest, 0), RETURNED, 0, 0);
        CHECK.due("told", 0, x.told(0, 1));
        CHECK.due("called with", 0, x.told(1, 1));
        Programs.remake(x, 0, 0, "SET 2 1; LESS 0 0 2; TELL 1 0; CALL 3 1 0; THROW 7 3");
        dueRun("one below the least", x, call(0, 0, 0, 0), THREW, greatest, 7);
        CHECK.due("told", greatest, x.told(0, 1));
        CHECK.due("called with", greatest, x.told(1, 1));
        Programs.remake(x, 0, 0, "TIMES 2 0 1; RETURN 2");
        dueRun("the greatest by itself", x, call(0, 0, greatest, greatest), RETURNED, 1);
        dueRun("half the NUMBERS by two", x, call(0, 0, 1 << bits - 1, 2), RETURNED, 0);
        Programs.remake(x, 0, 0, "ADD 2 0 1; SKIP 2 3; GO 24; SET 3 1; RETURN 3");
        dueRun("SKIP of what went round to 0", x, call(0, 0, greatest, 1), RETURNED, 1);
        Programs.remake(x, 0, 0, "LESS 2 0 1; BELOW 3 0 2; RETURN 3");
        dueRun("0 is below what went round from 0", x, call(0, 0, 0, 1), RETURNED, 1);
    }

    /** "OVER, REST by 0 THROW KIND 1, with 0": of every NUMBER, and out of a METHOD that was called. */
    private static void byZero(int bits) {
        EqualMethods x = new EqualMethods(bits);
        int greatest = (1 << bits) - 1;
        for (String op : new String[] {"OVER", "REST"}) {
            int last = Programs.make(x, 1, op + " 0 0 1; THROW 3 0");
            Programs.make(x, 1, "SET 2 1; CALL 2 " + last + " 0; RETURN 2");
            for (int number = 0; number <= greatest; number++) {
                dueRun(op + " by 0", x, call(1, last, number, 0), THREW, 0, 1, 1, 0, 1);
                dueRun(op + " by 0, called", x, call(1, last + 1, number, 0), THREW, 0, 1, 3, 0, 2);
            }
            dueRun(op + " by the greatest", x, call(1, last, greatest, greatest), THREW, op.equals("OVER") ? 1 : 0, 3);
            dueRun(op + " by 1", x, call(1, last, greatest, 1), THREW, op.equals("OVER") ? greatest : 0, 3);
            dueRun(op + " of 0", x, call(1, last, 0, greatest), THREW, 0, 3);
        }
    }

    /** "each with METHODS 0, 1, .. as they come, 6 at most, of OPS, 24 at most, at LINES from 0 on". */
    private static void fullBuilds() {
        EqualMethods x = new EqualMethods(1);
        for (int m = 0; m < 6; m++) {
            for (int build = 0; build < 2; build++) {
                CHECK.due("METHOD " + m + " of " + build, m, x.method(build));
                for (int line = 0; line < 22; line++) {
                    CHECK.due("LINE", line, x.op(build, m, Programs.ADD, 2 + line % 4, 0, 1));
                }
                CHECK.due("LINE 22", 22, x.op(build, m, Programs.SET, 3, m + build, 0));
                CHECK.due("LINE 23", 23, x.op(build, m, Programs.RETURN, 3, 0, 0));
                CHECK.due("a 25th OP", EqualMethods.ROOM, x.op(build, m, Programs.RETURN, 0, 0, 0));
            }
        }
        for (int build = 0; build < 2; build++) {
            CHECK.due("a 7th METHOD", EqualMethods.ROOM, x.method(build));
            for (int m = 0; m < 6; m++) {
                dueRun("a full METHOD", x, call(build, m, 7, 7), RETURNED, m + build, 0, 24, 0, 1);
            }
        }
    }

    /** "at the beginning 0 and 1 have the inputs x, y, the others 0": of each RUN and of each METHOD that is called. */
    private static void registersAtTheBeginning() {
        EqualMethods x = new EqualMethods(1);
        String tellsAll = "TELL 0 0; TELL 0 1; TELL 0 2; TELL 0 3; TELL 0 4; TELL 0 5";
        Programs.make(x, 0, tellsAll + "; SET 0 7; SET 1 7; SET 2 7; SET 3 7; SET 4 7; SET 5 7");
        Programs.make(x, 0, "SET 3 5; SET 4 6; CALL 2 0 3; CALL 2 0 3");
        for (int again = 0; again < 2; again++) {
            x.run(0, 0, 1, 2);
            for (int r = 0; r < 6; r++) {
                CHECK.due("REGISTER " + r + " of a RUN", r < 2 ? 1 + r : 0, x.told(r, 1));
            }
            x.run(0, 1, 1, 2);
            for (int i = 0; i < 12; i++) {
                CHECK.due("REGISTER " + i % 6 + " of a CALL", i % 6 < 2 ? 5 + i % 6 : 0, x.told(i, 1));
            }
        }
    }

    /** "what one does not name is not looked at". */
    private static void whatIsNotNamed() {
        for (int free : new int[] {MIN, -1, 6, MAX}) {
            EqualMethods x = new EqualMethods(2);
            x.method(0);
            x.op(0, 0, Programs.SET, 2, 3, free);
            x.op(0, 0, Programs.COPY, 3, 2, free);
            x.op(0, 0, Programs.TELL, 3, 3, free);
            x.op(0, 0, Programs.SKIP, 4, 5, free);
            x.op(0, 0, Programs.THROW, 2, 0, free);
            x.op(0, 0, Programs.GO, 7, free, free);
            x.op(0, 0, Programs.THROW, 7, 1, free);
            CHECK.due("all eight stand", 7, x.op(0, 0, Programs.RETURN, 3, free, free));
            dueRun("with " + free + " beside", x, call(0, 0, 1, 1), RETURNED, 3, 0, 6, 1, 1);
            CHECK.due("told", 3, x.told(0, 1));
            x.clear(0, 0);
            x.op(0, 0, Programs.THROW, 7, 1, free);
            dueRun("THROW with " + free + " beside", x, call(0, 0, 1, 2), THREW, 2, 7, 1, 0, 1);
        }
    }

    /** "SKIP r l: on at LINE l (0 .. 24), if r is 0", else at the next one. */
    private static void skips() {
        EqualMethods x = new EqualMethods(1);
        int method = Programs.make(x, 0, "SET 2 5; SKIP 0 24; SET 2 6; " + Programs.times(20, "SKIP 2 0") + "; RETURN 2");
        dueRun("to LINE 24 of 24, which is behind the last", x, call(0, method, 0, 7), RETURNED, 0, 0, 2);
        dueRun("not, if it is 1", x, call(0, method, 1, 7), RETURNED, 6, 0, 24);
        dueRun("not, if it is 7", x, call(0, method, 7, 7), RETURNED, 6, 0, 24);
        Programs.remake(x, 0, method, "SET 2 5; SKIP 0 23; SET 2 6; " + Programs.times(20, "SKIP 2 0") + "; RETURN 2");
        dueRun("to LINE 23, the last", x, call(0, method, 0, 7), RETURNED, 5, 0, 3);
        Programs.remake(x, 0, method, "SET 2 1; ADD 3 3 2; SKIP 0 5; LESS 0 0 2; SKIP 4 0; RETURN 3");
        dueRun("to LINE 0, three times", x, call(0, method, 3, 0), RETURNED, 4, 0, 5 + 5 + 5 + 4);
        Programs.remake(x, 0, method, "SKIP 0 0");
        dueRun("to itself without an end", x, call(0, method, 0, 0), SPENT, 0, 0, 100);
        dueRun("not to itself", x, call(0, method, 1, 0), RETURNED, 0, 0, 1);
    }

    /** "GO l": also to LINE 0 and behind the last. */
    private static void goes() {
        EqualMethods x = new EqualMethods(1);
        int method = Programs.make(x, 0, "SKIP 0 4; SET 2 1; LESS 0 0 2; GO 0; RETURN 2");
        dueRun("to LINE 0", x, call(0, method, 7, 0), RETURNED, 1, 0, 7 * 4 + 2);
        Programs.remake(x, 0, method, "GO 24; " + Programs.times(23, "RETURN 0"));
        dueRun("to LINE 24 of 24", x, call(0, method, 7, 0), RETURNED, 0, 0, 1);
        Programs.remake(x, 0, method, "GO 23; " + Programs.times(22, "THROW 2 0") + "; RETURN 0");
        dueRun("to LINE 23 of 24", x, call(0, method, 7, 0), RETURNED, 7, 0, 2);
        CHECK.due("GO 25", OUTSIDE, x.op(0, method, Programs.GO, 25, 0, 0));
        CHECK.due("GO -1", OUTSIDE, x.op(0, method, Programs.GO, -1, 0, 0));
    }

    /** "with s and the REGISTER behind s (behind REGISTER 5 comes REGISTER 0) as inputs". */
    private static void inputsOfCalls() {
        EqualMethods x = new EqualMethods(1);
        Programs.make(x, 0, "TELL 0 0; TELL 0 1");
        int caller = x.method(0);
        for (int s = 0; s < 6; s++) {
            Programs.remake(x, 0, caller, "SET 2 3; SET 3 4; SET 4 5; SET 5 6; CALL 0 0 " + s);
            x.run(0, caller, 1, 2);
            CHECK.due("the first of REGISTER " + s, s + 1, x.told(0, 1));
            CHECK.due("the second of REGISTER " + s, s == 5 ? 1 : s + 2, x.told(1, 1));
        }
        CHECK.due("REGISTER 6", OUTSIDE, x.op(0, caller, Programs.CALL, 0, 0, 6));
        CHECK.due("REGISTER -1", OUTSIDE, x.op(0, caller, Programs.CALL, 0, 0, -1));
    }

    /** "what it RETURNS comes to r": and to no other REGISTER, though it is one of the inputs. */
    private static void returnsComeTo() {
        EqualMethods x = new EqualMethods(1);
        Programs.make(x, 1, "ADD 0 0 1; RETURN 0");
        int caller = x.method(1);
        for (int r = 0; r < 6; r++) {
            Programs.remake(x, 1, caller, "SET 2 3; SET 3 4; SET 4 5; SET 5 6; CALL " + r + " 0 5"
                    + "; TELL 0 0; TELL 0 1; TELL 0 2; TELL 0 3; TELL 0 4; TELL 0 5");
            x.run(1, caller, 1, 2);
            for (int i = 0; i < 6; i++) {
                CHECK.due("REGISTER " + i + " behind a CALL to " + r, i == r ? 7 : i + 1, x.told(i, 1));
            }
        }
    }

    /** "what it THROWS goes out": nothing behind the CALL is done. */
    private static void throwsGoOut() {
        EqualMethods x = new EqualMethods(2);
        Programs.make(x, 0, "TELL 0 1; THROW 2 0");
        Programs.make(x, 0, "TELL 1 1; CALL 0 0 0; TELL 2 1; RETURN 1");
        Programs.make(x, 0, "CALL 0 1 0; TELL 3 1; THROW 3 1");
        dueRun("through two METHODS", x, call(0, 2, 3, 1), THREW, 3, 2, 5, 2, 3);
        CHECK.due("told last", 0, x.told(1, 0));
    }

    /** "THROW k r: KIND k (2 .. 7), with r". */
    private static void kinds() {
        EqualMethods x = new EqualMethods(2);
        x.method(0);
        for (int kind = 2; kind <= 7; kind++) {
            for (int r = 0; r < 2; r++) {
                x.clear(0, 0);
                CHECK.due("KIND " + kind, 0, x.op(0, 0, Programs.THROW, kind, r, 0));
                dueRun("KIND " + kind, x, call(0, 0, 3, 2), THREW, 3 - r, kind, 1, 0, 1);
            }
        }
        for (int kind : new int[] {MIN, -1, 0, 1, 8, 9, MAX}) {
            CHECK.due("KIND " + kind, OUTSIDE, x.op(0, 0, Programs.THROW, kind, 0, 0));
        }
    }

    /** "Behind the last LINE (also by l) it RETURNS 0": also to the METHOD that called it. */
    private static void behindTheLastLine() {
        EqualMethods x = new EqualMethods(1);
        String[] ends = {"", "SET 0 7", "GO 1", "GO 24", "GO 2; RETURN 1", "SKIP 2 1", "SKIP 2 24", "SKIP 2 9; RETURN 1"};
        x.method(0);
        Programs.make(x, 0, "SET 4 6; CALL 4 0 0; RETURN 4");
        for (String end : ends) {
            Programs.remake(x, 0, 0, end);
            int ops = end.isEmpty() ? 0 : 1;
            dueRun("RUN of '" + end + "'", x, call(0, 0, 7, 7), RETURNED, 0, 0, ops, 0, 1);
            dueRun("CALL of '" + end + "'", x, call(0, 1, 7, 7), RETURNED, 0, 0, ops + 3, 0, 2);
        }
    }

    /** "CALL of a METHOD that is not there KIND 8, with its number": of the BUILD that calls. */
    private static void methodsNotThere() {
        EqualMethods x = new EqualMethods(1);
        Programs.make(x, 0, "TELL 0 0; CALL 0 1 0; RETURN 0");
        for (int m = 0; m < 6; m++) {
            x.method(1);
        }
        dueRun("there in the other BUILD alone", x, call(0, 0, 4, 4), THREW, 1, 8, 2, 1, 1);
        for (int m = 1; m < 6; m++) {
            Programs.remake(x, 0, 0, "CALL 0 " + m + " 0; RETURN 0");
            dueRun("METHOD " + m + " not there", x, call(0, 0, 4, 4), THREW, m, 8, 1, 0, 1);
            CHECK.due("it comes", m, x.method(0));
            dueRun("METHOD " + m + " there", x, call(0, 0, 4, 4), RETURNED, 0, 0, 2, 0, 2);
        }
        CHECK.due("METHOD 6 may never come", OUTSIDE, x.op(0, 0, Programs.CALL, 0, 6, 0));
        CHECK.due("METHOD -1 may never come", OUTSIDE, x.op(0, 0, Programs.CALL, 0, -1, 0));
    }

    /** "SPENT: where its 101st OP (of all METHODS together) .. would begin". */
    private static void opsOfAllMethods() {
        EqualMethods x = new EqualMethods(1);
        Programs.make(x, 0, Programs.times(19, "SET 2 1"));
        int twenties = x.method(0);
        Programs.remake(x, 0, twenties, Programs.times(4, "CALL 2 0 0") + "; " + Programs.times(19, "SET 2 1"));
        dueRun("99 OPS", x, call(0, twenties, 1, 1), RETURNED, 0, 0, 99, 0, 2);
        x.op(0, twenties, Programs.RETURN, 0, 0, 0);
        dueRun("100 OPS", x, call(0, twenties, 5, 1), RETURNED, 5, 0, 100, 0, 2);
        Programs.remake(x, 0, 0, Programs.times(20, "SET 2 1"));
        dueRun("101 OPS and more", x, call(0, twenties, 5, 1), SPENT, 0, 0, 100, 0, 2);
        Programs.remake(x, 0, twenties, Programs.times(5, "CALL 2 0 0"));
        dueRun("105 OPS, the 101st in a METHOD that was called", x, call(0, twenties, 5, 1), SPENT, 0, 0, 100, 0, 2);
    }

    /** The 100th OP may be of any sort, and a 101st of any sort is not begun. */
    private static void lastOps() {
        EqualMethods x = new EqualMethods(1);
        Programs.make(x, 0, Programs.times(23, "SET 2 1"));
        Programs.make(x, 0, Programs.times(4, "CALL 2 0 0") + "; COPY 2 3");
        Programs.make(x, 0, "CALL 2 1 0; RETURN 0");
        x.method(0);
        Programs.make(x, 0, "SET 3 1; RETURN 3");
        String[] last = {"RETURN 0", "THROW 4 0", "OVER 2 0 3", "CALL 2 5 0", "CALL 2 3 0", "TELL 1 0", "GO 24", "SKIP 0 24"};
        int[][] want = {
            {RETURNED, 6, 0, 100, 0}, {THREW, 6, 4, 100, 0}, {THREW, 0, 1, 100, 0}, {THREW, 5, 8, 100, 0},
            {RETURNED, 0, 0, 100, 0}, {RETURNED, 0, 0, 100, 1}, {RETURNED, 0, 0, 100, 0}, {RETURNED, 0, 0, 100, 0},
        };
        for (int i = 0; i < last.length; i++) {
            Programs.remake(x, 0, 2, "SET 2 1; CALL 2 1 0; " + last[i]);
            dueRun(last[i] + " as the 100th", x, call(0, 2, 6, 6), want[i]);
            Programs.remake(x, 0, 2, "SET 2 1; SET 2 1; CALL 2 1 0; " + last[i]);
            dueRun(last[i] + " as the 101st", x, call(0, 2, 6, 6), SPENT, 0, 0, 100, 0, 3);
        }
        Programs.remake(x, 0, 2, "SET 2 1; CALL 2 1 0; CALL 2 4 0");
        dueRun("CALL as the 100th, of a METHOD that has OPS", x, call(0, 2, 6, 6), SPENT, 0, 0, 100, 0, 3);
    }

    /** "its 41st TELL": of all METHODS together, whatever the PORT. */
    private static void tellsOfAllMethods() {
        EqualMethods x = new EqualMethods(1);
        Programs.make(x, 1, Programs.times(5, "TELL 0 0; TELL 1 0; TELL 2 0; TELL 3 0") + "; RETURN 0");
        Programs.make(x, 1, "CALL 2 0 0; CALL 2 0 0; RETURN 0");
        dueRun("40 TELLS", x, call(1, 1, 5, 0), RETURNED, 5, 0, 45, 40, 2);
        for (int p = 0; p < 4; p++) {
            Programs.remake(x, 1, 1, "TELL " + p + " 1; CALL 2 0 0; CALL 2 0 0; RETURN 0");
            dueRun("41 TELLS, the last within", x, call(1, 1, 5, 0), SPENT, 0, 0);
            CHECK.due("as many as are kept", 40, x.ran(3));
            CHECK.due("the 40th", 2, x.told(39, 0));
            CHECK.due("no 41st", EqualMethods.NONE, x.told(40, 0));
            Programs.remake(x, 1, 1, "CALL 2 0 0; CALL 2 0 0; TELL " + p + " 1; RETURN 0");
            dueRun("41 TELLS, the last without", x, call(1, 1, 5, 0), SPENT, 0, 0);
            CHECK.due("as many as are kept", 40, x.ran(3));
        }
        Programs.remake(x, 1, 1, "CALL 2 0 0; CALL 2 0 0; SKIP 1 4; TELL 0 0; THROW 7 0");
        dueRun("a TELL that is skipped", x, call(1, 1, 5, 0), THREW, 5, 7, 46, 40, 2);
        dueRun("and one that is not", x, call(1, 1, 5, 1), SPENT, 0, 0);
    }

    /** "a 9th METHOD under way (one within the other)". */
    private static void oneWithinTheOther() {
        EqualMethods x = new EqualMethods(1);
        Programs.make(x, 0, "SKIP 0 4; SET 2 1; LESS 0 0 2; CALL 3 0 0; RETURN 1");
        dueRun("eight", x, call(0, 0, 7, 6), RETURNED, 6, 0, 7 * 5 + 2, 0, 8);
        Programs.make(x, 0, "CALL 3 0 0; CALL 3 0 0; RETURN 3");
        dueRun("eight, twice", x, call(0, 1, 6, 5), RETURNED, 5, 0, 3 + 2 * (6 * 5 + 2), 0, 8);
        dueRun("nine", x, call(0, 1, 7, 5), SPENT, 0, 0, 1 + 7 * 4, 0, 8);
        x.method(0);
        Programs.make(x, 0, Programs.times(20, "CALL 3 2 0") + "; RETURN 0");
        dueRun("twenty, one behind the other", x, call(0, 3, 4, 5), RETURNED, 4, 0, 21, 0, 2);
        Programs.remake(x, 0, 2, "CALL 0 2 0");
        dueRun("without an end, called", x, call(0, 3, 4, 5), SPENT, 0, 0, 8, 0, 8);
    }
}
