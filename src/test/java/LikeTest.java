/** The boundary cases of what is LIKE, HELD and HOLDS: a method for each sentence of the Terms, which stands above it. */
public final class LikeTest {
    private static final Check CHECK = new Check("LikeTest");
    private static final int NONE = EqualMethods.NONE;
    private static final int UNLIKE = 0, ALIKE = 1, UNDECIDED = 2;

    public static void main(String[] args) {
        atFirst();
        eachStandsForOne();
        orderOfOneGroup();
        eachGroup();
        byThoseTheyStandFor();
        endAlike();
        outermost();
        spentAndNotLike();
        spentOnBothSides();
        pairsAtMost();
        answers();
        noCallBeginsAMethod();
        thirdCallings();
        wouldBeSpentByOps();
        wouldBeSpentByTells();
        asManyCallings();
        callingsOfPairs();
        callingsWithInputs();
        tellsByCallings();
        pairsThatHold();
        firstByPairsInputsAnswers();
        CHECK.end();
    }

    private static EqualMethods twins(int bits, String one, String other) {
        EqualMethods x = new EqualMethods(bits);
        Programs.make(x, 0, one);
        Programs.make(x, 1, other);
        return x;
    }

    private static EqualMethods pair(int bits, String one, String other) {
        EqualMethods x = twins(bits, one, other);
        x.assume(0, 0);
        return x;
    }

    private static void dueHeld(String what, int bits, String one, String other, int want, int... first) {
        EqualMethods x = twins(bits, one, other);
        CHECK.due(what, want, x.hold(0, 0));
        CHECK.due(what + ": first(0)", first.length == 0 ? NONE : first[0], x.first(0));
        CHECK.due(what + ": first(1)", first.length == 0 ? NONE : first[1], x.first(1));
    }

    private static void dueProved(String what, EqualMethods x, int want, int... why) {
        CHECK.due(what, want, x.prove());
        for (int i = 0; i < 5; i++) {
            CHECK.due(what + ": why(" + i + ")", why.length == 0 ? NONE : why[i], x.why(i));
        }
    }

    /** "(at first the same)", "at first all 0". */
    private static void atFirst() {
        EqualMethods x = new EqualMethods(2);
        for (int p = 0; p < 4; p++) {
            CHECK.due("PORT " + p + " stands for", p, x.count(4 + p));
            CHECK.due("PORT " + p + " is of", 0, x.count(8 + p));
        }
    }

    /** "each PORT of BUILD 0 stands for one of BUILD 1": no two for the same, whatever is renamed. */
    private static void eachStandsForOne() {
        EqualMethods x = new EqualMethods(2);
        for (int i = 0; i < 64; i++) {
            int p = i / 4 % 4;
            int q = (i + i / 16) % 4;
            int was = x.count(4 + p);
            CHECK.due("rename(" + p + ", " + q + ")", was, x.rename(p, q));
            CHECK.due("stands for", q, x.count(4 + p));
            int seen = 0;
            for (int port = 0; port < 4; port++) {
                seen |= 1 << x.count(4 + port);
            }
            CHECK.due("all four are stood for", 15, seen);
        }
    }

    /** "order counts among what is told to PORTS of one GROUP": for every two PORTS, in every GROUP. */
    private static void orderOfOneGroup() {
        for (int p = 0; p < 4; p++) {
            for (int q = 0; q < 4; q++) {
                EqualMethods x = twins(2, "TELL " + p + " 0; TELL " + q + " 1", "TELL " + q + " 1; TELL " + p + " 0");
                CHECK.due("of GROUP 0 at first", UNLIKE, x.hold(0, 0));
                for (int g = 0; g < 4; g++) {
                    x.group(p, g);
                    x.group(q, 3 - g);
                    CHECK.due("of two GROUPS, or one PORT", p == q ? UNLIKE : ALIKE, x.hold(0, 0));
                    x.group(q, g);
                    CHECK.due("of GROUP " + g, UNLIKE, x.hold(0, 0));
                }
            }
        }
    }

    /** "if for each GROUP the TELLS to its PORTS .. are the same, in order": none, one more, one less, another. */
    private static void eachGroup() {
        String four = "TELL 0 0; TELL 1 0; TELL 2 0; TELL 3 0";
        String[] others = {"", "TELL 1 0; TELL 2 0; TELL 3 0", "TELL 0 0; TELL 1 0; TELL 2 0", four + "; TELL 3 5", four + "; TELL 0 5",
            "TELL 1 0; TELL 1 0; TELL 2 0; TELL 3 0", "TELL 0 0; TELL 1 0; TELL 2 0; TELL 2 0",
            "TELL 0 1; TELL 1 0; TELL 2 0; TELL 3 0", "TELL 0 0; TELL 1 0; TELL 2 0; TELL 3 1"};
        EqualMethods x = twins(2, four, four);
        Programs.make(x, 0, "");
        Programs.make(x, 1, "");
        for (int apart = 0; apart < 2; apart++) {
            CHECK.due("four and four", ALIKE, x.hold(0, 0));
            CHECK.due("four and none", UNLIKE, x.hold(0, 1));
            CHECK.due("none and four", UNLIKE, x.hold(1, 0));
            CHECK.due("none and none", ALIKE, x.hold(1, 1));
            for (String other : others) {
                Programs.remake(x, 1, 0, other);
                CHECK.due("four and '" + other + "'", UNLIKE, x.hold(0, 0));
            }
            Programs.remake(x, 1, 0, "TELL 3 0; TELL 2 0; TELL 1 0; TELL 0 0");
            CHECK.due("four and four, from behind", apart == 0 ? UNLIKE : ALIKE, x.hold(0, 0));
            Programs.remake(x, 1, 0, four);
            for (int p = 0; p < 4; p++) {
                x.group(p, p);
            }
        }
    }

    /** "(of BUILD 1 by those they stand for)": the GROUPS are of PORTS of BUILD 0. */
    private static void byThoseTheyStandFor() {
        EqualMethods x = twins(2, "TELL 0 0; TELL 1 1", "TELL 2 1; TELL 3 0");
        CHECK.due("PORTS 0, 1 and 2, 3", UNLIKE, x.hold(0, 0));
        x.rename(0, 3);
        x.rename(1, 2);
        CHECK.due("3 2 1 0, another order", UNLIKE, x.hold(0, 0));
        x.group(2, 1);
        CHECK.due("GROUPS of PORTS of BUILD 1 do not count", UNLIKE, x.hold(0, 0));
        x.group(0, 1);
        CHECK.due("GROUPS of PORTS of BUILD 0 count", ALIKE, x.hold(0, 0));
        x.group(1, 1);
        CHECK.due("one GROUP again", UNLIKE, x.hold(0, 0));
    }

    /** "if they end alike (KIND, NUMBER)". */
    private static void endAlike() {
        dueHeld("RETURN of 0 by both ways", 2, "RETURN 2", "", ALIKE);
        dueHeld("RETURN of another NUMBER", 2, "RETURN 0", "", UNLIKE, 1, 0);
        dueHeld("the same KIND and NUMBER", 3, "THROW 7 1", "COPY 0 1; THROW 7 0", ALIKE);
        dueHeld("another KIND", 3, "THROW 6 1", "THROW 7 1", UNLIKE, 0, 0);
        dueHeld("another NUMBER", 3, "THROW 7 0", "THROW 7 1", UNLIKE, 0, 1);
        dueHeld("KIND 1 and a RETURN of 0", 3, "OVER 2 2 2", "", UNLIKE, 0, 0);
        dueHeld("KIND 8 and KIND 7, with 5", 3, "CALL 0 5 0", "SET 0 5; THROW 7 0", UNLIKE, 0, 0);
        dueHeld("KIND 8, with 5 and with 4", 3, "CALL 0 5 0", "CALL 0 4 0", UNLIKE, 0, 0);
        dueHeld("KIND 8, with 5 and with 5", 3, "CALL 0 5 0", "CALL 1 5 4", ALIKE);
        dueHeld("by 0, where y is 0", 3, "OVER 2 0 1; RETURN 2", "SKIP 1 3; OVER 0 0 1; RETURN 0; REST 0 0 1", ALIKE);
    }

    /** "for all x, y (x outermost)": from 0 0 to the greatest. */
    private static void outermost() {
        for (int bits = 2; bits <= 3; bits++) {
            int greatest = (1 << bits) - 1;
            dueHeld("unlike at 0 1 and at 1 0", bits, "XOR 2 0 1; RETURN 2", "", UNLIKE, 0, 1);
            dueHeld("unlike at every input", bits, "SET 2 1; RETURN 2", "", UNLIKE, 0, 0);
            dueHeld("unlike at the last x", bits, "SET 2 " + greatest + "; BELOW 3 0 2; RETURN 3", "SET 3 1; RETURN 3",
                    UNLIKE, greatest, 0);
            dueHeld("unlike at the last y", bits, "SET 2 " + greatest + "; BELOW 3 1 2; RETURN 3", "SET 3 1; RETURN 3",
                    UNLIKE, 0, greatest);
            dueHeld("unlike at the last x and y", bits, "SET 2 " + greatest + "; AND 3 0 1; BELOW 3 3 2; RETURN 3",
                    "SET 3 1; RETURN 3", UNLIKE, greatest, greatest);
        }
    }

    /** "0 if some two RUNS, none SPENT, are not LIKE .. else 2 if some RUN was SPENT; else 1". */
    private static void spentAndNotLike() {
        dueHeld("SPENT, and not LIKE behind it", 2, "SKIP 0 0; RETURN 0", "", UNLIKE, 1, 0);
        dueHeld("not LIKE, and SPENT behind it", 2, "SKIP 0 2; GO 1; SET 2 1; RETURN 2", "", UNLIKE, 0, 0);
        dueHeld("SPENT where the other THREW, LIKE behind it", 2, "OVER 3 0 0; RETURN 1", "SKIP 0 0; RETURN 1", UNDECIDED);
        dueHeld("SPENT at 0 0 alone", 2, "SKIP 0 2; GO 3; SKIP 1 2", "", UNDECIDED);
        dueHeld("SPENT at 3 3 alone", 2, "", "SET 2 3; AND 3 0 1; XOR 3 3 2; SKIP 3 3", UNDECIDED);
        dueHeld("never SPENT", 2, "", "SET 2 3; AND 3 0 1; XOR 3 3 2; SKIP 3 4", ALIKE);
    }

    /** "some two RUNS, none SPENT": a SPENT one of either BUILD is not held against the other. */
    private static void spentOnBothSides() {
        dueHeld("BUILD 0", 2, "TELL 0 0; GO 0", "THROW 2 0", UNDECIDED);
        dueHeld("BUILD 1", 2, "THROW 2 0", "CALL 0 0 0", UNDECIDED);
        dueHeld("both, each in its way", 2, "TELL 0 0; GO 0", "CALL 0 0 0", UNDECIDED);
        dueHeld("a RETURN of 0 is not SPENT", 2, "", "GO 0", UNDECIDED);
    }

    /** "PAIRS (a of BUILD 0, b of 1), 6 at most, are ASSUMED". */
    private static void pairsAtMost() {
        EqualMethods x = new EqualMethods(2);
        for (int m = 0; m < 6; m++) {
            x.method(0);
            x.method(1);
            Programs.remake(x, 0, m, "CALL 2 " + m + " 0");
            Programs.remake(x, 1, m, "CALL 2 " + (5 - m) + " 0");
        }
        for (int m = 0; m < 6; m++) {
            CHECK.due("PAIR " + m, m, x.assume(m, 5 - m));
        }
        CHECK.due("a 7th PAIR", EqualMethods.ROOM, x.assume(0, 0));
        dueProved("six PAIRS, and CALLINGS of other METHODS", x, UNLIKE, 0, 0, 0, 0, 0);
        for (int m = 0; m < 6; m++) {
            Programs.remake(x, 1, 5 - m, "CALL 3 " + (5 - m) + " 0");
        }
        dueProved("six PAIRS, and CALLINGS of them", x, ALIKE);
        Programs.remake(x, 1, 0, "CALL 3 0 0; RETURN 0");
        dueProved("the sixth PAIR", x, UNLIKE, 5, 1, 0, 0, 0);
    }

    /** "two ANSWERS (each 0 .. 2^W)": the last is KIND 9, all others are RETURNED. */
    private static void answers() {
        for (int bits = 2; bits <= 3; bits++) {
            int numbers = 1 << bits;
            String greatest = "SET 5 " + (numbers - 1) + "; ";
            EqualMethods x = pair(bits, "CALL 2 0 0; RETURN 2", "CALL 2 0 0; TELL 0 2; RETURN 2");
            dueProved("told behind a CALLING", x, UNLIKE, 0, 0, 0, 0, 0);
            x = pair(bits, "CALL 2 0 0; RETURN 2", "CALL 2 0 0; ADD 2 2 3; RETURN 2");
            dueProved("no ANSWER is cut", x, ALIKE);
            x = pair(bits, greatest + "CALL 2 0 0; BELOW 3 2 5; RETURN 3", "CALL 2 0 0; SET 3 1; RETURN 3");
            dueProved("the greatest first ANSWER", x, UNLIKE, 0, 0, 0, numbers - 1, 0);
            x = pair(bits, greatest + "CALL 2 0 0; CALL 2 0 0; BELOW 3 2 5; RETURN 3", "CALL 2 0 0; CALL 2 0 0; SET 3 1; RETURN 3");
            dueProved("the greatest second ANSWER", x, UNLIKE, 0, 0, 0, 0, numbers - 1);
            x = pair(bits, "CALL 2 0 0; GO 1", "CALL 2 0 1; GO 1");
            dueProved("KIND 9 alone ends it", x, UNLIKE, 0, 0, 1, numbers, 0);
            x = pair(bits, "CALL 2 0 0; GO 1", "CALL 2 0 0; GO 1");
            dueProved("KIND 9 alone ends it, LIKE", x, UNDECIDED, 0, 0, 0, 0, 0);
        }
    }

    /** "no CALL begins another METHOD": what the called METHODS do does not count, nor that they would be SPENT. */
    private static void noCallBeginsAMethod() {
        EqualMethods x = pair(2, "CALL 2 1 0; RETURN 2", "CALL 2 1 0; RETURN 2");
        Programs.make(x, 0, "GO 0");
        Programs.make(x, 1, "THROW 2 0");
        x.assume(1, 1);
        dueProved("the second PAIR is OPEN, the first one HOLDS", x, UNDECIDED, 1, 0, 0, 0, 0);
        Programs.remake(x, 0, 1, "CALL 2 1 0; RETURN 2");
        Programs.remake(x, 1, 1, "CALL 2 1 0; RETURN 2");
        CHECK.due("RUNS are SPENT", UNDECIDED, x.hold(0, 0));
        dueProved("METHODS that call themselves", x, ALIKE);
    }

    /** "A third CALLING leaves the WALK OPEN": in either WALK; two do not. */
    private static void thirdCallings() {
        String two = "CALL 2 0 0; CALL 2 0 0";
        String three = two + "; CALL 2 0 0";
        dueProved("two and two", pair(2, two, two), ALIKE);
        dueProved("three and three", pair(2, three, three), UNDECIDED, 0, 0, 0, 0, 0);
        dueProved("three and two", pair(2, three, two), UNDECIDED, 0, 0, 0, 0, 0);
        dueProved("two and three", pair(2, two, three), UNDECIDED, 0, 0, 0, 0, 0);
        dueProved("three and one", pair(2, three, "CALL 2 0 0"), UNLIKE, 0, 0, 0, 0, 4);
        dueProved("three and none", pair(2, three, ""), UNLIKE, 0, 0, 0, 0, 4);
        dueProved("a third one of a METHOD that is not there", pair(2, two + "; CALL 2 5 0", two + "; CALL 3 5 1"), ALIKE);
        String maybe = two + "; SKIP 2 4; CALL 2 0 0";
        dueProved("a third one behind a second ANSWER", pair(2, maybe, maybe), UNDECIDED, 0, 0, 0, 0, 1);
    }

    /** OPS that go round seven times: so many in all. */
    private static String round(int ops) {
        return "SET 2 7; SET 3 1; " + Programs.times(10, "COPY 4 2") + "; LESS 2 2 3; SKIP 2 15; GO 2; "
                + Programs.times(ops - 92, "COPY 4 2");
    }

    /** "so does what would be SPENT": a WALK of 100 OPS is not OPEN, one of 101 is; a CALLING is one OP. */
    private static void wouldBeSpentByOps() {
        EqualMethods x = pair(3, round(100), "");
        x.run(0, 0, 0, 0);
        CHECK.due("OPS of the RUN", 100, x.ran(2));
        dueProved("100 OPS", x, ALIKE);
        Programs.remake(x, 0, 0, round(101));
        dueProved("101 OPS", x, UNDECIDED, 0, 0, 0, 0, 0);
        Programs.remake(x, 1, 0, round(100));
        dueProved("101 and 100 OPS", x, UNDECIDED, 0, 0, 0, 0, 0);
        Programs.remake(x, 0, 0, round(99) + "; CALL 5 0 0");
        Programs.remake(x, 1, 0, "CALL 5 0 0");
        dueProved("a CALLING as the 100th OP", x, ALIKE);
        Programs.remake(x, 0, 0, round(100) + "; CALL 5 0 0");
        dueProved("a CALLING as the 101st OP", x, UNDECIDED, 0, 0, 0, 0, 0);
        Programs.remake(x, 0, 0, round(99) + "; CALL 5 0 0; SKIP 5 24");
        dueProved("a 101st OP behind a CALLING", x, UNDECIDED, 0, 0, 0, 0, 0);
    }

    /** "so does what would be SPENT": a WALK of 40 TELLS is not OPEN, one of 41 is. */
    private static void wouldBeSpentByTells() {
        String forty = "SET 2 4; SET 3 1; " + Programs.times(10, "TELL 0 2") + "; LESS 2 2 3; SKIP 2 15; GO 2";
        EqualMethods x = pair(3, forty, forty);
        x.run(0, 0, 0, 0);
        CHECK.due("TELLS of the RUN", 40, x.ran(3));
        dueProved("40 TELLS", x, ALIKE);
        Programs.remake(x, 0, 0, forty + "; TELL 1 2");
        dueProved("41 and 40 TELLS", x, UNDECIDED, 0, 0, 0, 0, 0);
        Programs.remake(x, 1, 0, forty + "; TELL 1 2");
        dueProved("41 TELLS", x, UNDECIDED, 0, 0, 0, 0, 0);
        Programs.remake(x, 0, 0, forty + "; CALL 2 0 0; RETURN 2");
        Programs.remake(x, 1, 0, forty + "; CALL 3 0 4; RETURN 3");
        dueProved("40 TELLS ahead of a CALLING", x, UNLIKE, 0, 0, 1, 0, 0);
        Programs.remake(x, 1, 0, forty + "; CALL 3 0 0; RETURN 3");
        dueProved("40 TELLS ahead of the same CALLING", x, ALIKE);
        Programs.remake(x, 0, 0, "CALL 2 0 0; " + forty.replace("15", "16").replace("GO 2", "GO 3"));
        Programs.remake(x, 1, 0, "CALL 2 0 0; " + forty.replace("15", "16").replace("GO 2", "GO 3"));
        dueProved("40 TELLS behind a CALLING", x, ALIKE);
        x.op(0, 0, Programs.TELL, 0, 0, 0);
        dueProved("41 TELLS behind a CALLING", x, UNDECIDED, 0, 0, 0, 0, 0);
    }

    /** "if they have as many CALLINGS". */
    private static void asManyCallings() {
        String one = "CALL 2 0 0; SET 2 0";
        dueProved("none and none", pair(2, "", ""), ALIKE);
        dueProved("one and none", pair(2, one, ""), UNLIKE, 0, 0, 0, 0, 0);
        dueProved("none and one", pair(2, "", one), UNLIKE, 0, 0, 0, 0, 0);
        dueProved("two and one", pair(2, one + "; " + one, one), UNLIKE, 0, 0, 0, 0, 0);
        dueProved("one and two", pair(2, one, one + "; " + one), UNLIKE, 0, 0, 0, 0, 0);
        dueProved("two and one, where the first ANSWER is not 0", pair(2, "CALL 2 0 0; SKIP 2 3; CALL 2 0 0", one),
                UNLIKE, 0, 0, 0, 1, 0);
        dueProved("KIND 9 of the first, and no CALL of the second", pair(2, one + "; " + one, one + "; " + one), ALIKE);
    }

    /** "each of METHODS that are an ASSUMED PAIR": the first and the second. */
    private static void callingsOfPairs() {
        EqualMethods x = pair(2, "CALL 2 0 0; CALL 2 1 0", "CALL 2 0 0; CALL 2 2 0");
        for (int i = 0; i < 2; i++) {
            x.method(0);
            x.method(1);
        }
        dueProved("the second is no PAIR", x, UNLIKE, 0, 0, 0, 0, 0);
        x.assume(2, 1);
        dueProved("the second is a PAIR from behind alone", x, UNLIKE, 0, 0, 0, 0, 0);
        x.assume(1, 2);
        dueProved("both are PAIRS", x, ALIKE);
        Programs.remake(x, 0, 0, "CALL 2 2 0; CALL 2 0 0");
        dueProved("the first is no PAIR", x, UNLIKE, 0, 0, 0, 0, 0);
        CHECK.due("drop", 3, x.drop());
        x.assume(2, 2);
        x.assume(0, 0);
        Programs.remake(x, 1, 0, "CALL 2 2 0; CALL 2 0 0");
        dueProved("both are PAIRS, of other numbers", x, ALIKE);
    }

    /** "with the same inputs": both of them, of both CALLINGS. */
    private static void callingsWithInputs() {
        dueProved("REGISTERS 0, 1 of both", pair(2, "CALL 2 0 0", "CALL 3 0 0"), ALIKE);
        dueProved("another first one", pair(2, "CALL 2 0 0", "SET 0 0; CALL 2 0 0"), UNLIKE, 0, 1, 0, 0, 0);
        dueProved("another second one", pair(2, "CALL 2 0 0", "SET 1 0; CALL 2 0 0"), UNLIKE, 0, 0, 1, 0, 0);
        dueProved("another first one of the second", pair(2, "CALL 2 0 2; CALL 4 0 0", "CALL 2 0 2; SET 0 0; CALL 4 0 0"),
                UNLIKE, 0, 1, 0, 0, 0);
        dueProved("another second one of the second", pair(2, "CALL 5 0 2; CALL 4 0 0", "CALL 5 0 2; SET 1 0; CALL 4 0 0"),
                UNLIKE, 0, 0, 1, 0, 0);
        dueProved("REGISTERS 5, 0", pair(2, "CALL 2 0 5", "CALL 2 0 5"), ALIKE);
        dueProved("REGISTERS 5, 0 and 5, 6", pair(2, "CALL 2 0 5", "SET 4 0; COPY 3 4; CALL 2 0 3"), UNLIKE, 0, 1, 0, 0, 0);
        dueProved("an ANSWER as input", pair(2, "CALL 0 0 0; CALL 0 0 0", "CALL 0 0 0; SET 0 0; CALL 0 0 0"),
                UNLIKE, 0, 0, 0, 1, 0);
    }

    /** "the TELLS ahead of the first one, between them, behind the last one are LIKE". */
    private static void tellsByCallings() {
        String call = "CALL 2 0 0";
        String tell = "TELL 1 0";
        String[] places = {"%s; " + call + "; " + call, call + "; %s; " + call, call + "; " + call + "; %s"};
        for (int i = 0; i < 3; i++) {
            for (int j = 0; j < 3; j++) {
                EqualMethods x = pair(2, String.format(places[i], tell), String.format(places[j], tell));
                for (int g = 0; g < 2; g++) {
                    if (i == j) {
                        dueProved("told at " + i, x, ALIKE);
                    } else {
                        // Where an ANSWER is thrown ahead of both TELLS, the WALKS are LIKE; the first ANSWERS return.
                        dueProved("told at " + i + " and " + j, x, UNLIKE, 0, 0, 0, 0, 0);
                    }
                    x.group(1, 3);
                }
            }
            String two = String.format(places[i], "TELL 0 0; TELL 1 1");
            String turned = String.format(places[i], "TELL 1 1; TELL 0 0");
            EqualMethods x = pair(2, two, turned);
            dueProved("another order at " + i, x, UNLIKE, 0, 0, 0, 0, 0);
            x.group(0, 1);
            dueProved("another order of two GROUPS at " + i, x, ALIKE);
            x.rename(0, 1);
            dueProved("renamed at " + i, x, UNLIKE, 0, 0, 1, 0, 0);
        }
    }

    /** "A PAIR HOLDS, if all such WALKS of its METHODS are LIKE, none OPEN". */
    private static void pairsThatHold() {
        EqualMethods x = new EqualMethods(2);
        dueProved("no PAIR", x, NONE);
        Programs.make(x, 0, "");
        Programs.make(x, 1, "");
        dueProved("METHODS, but no PAIR", x, NONE);
        x.assume(0, 0);
        dueProved("METHODS without OPS", x, ALIKE);
        Programs.remake(x, 0, 0, "SET 2 3; AND 3 0 1; XOR 3 3 2; SKIP 3 3");
        dueProved("OPEN at the last inputs alone", x, UNDECIDED, 0, 3, 3, 0, 0);
        Programs.remake(x, 0, 0, "SET 2 3; AND 3 0 1; BELOW 3 3 2; SKIP 3 5; GO 24; SET 2 1; RETURN 2");
        dueProved("not LIKE at the last inputs alone", x, UNLIKE, 0, 3, 3, 0, 0);
        x.drop();
        dueProved("no PAIR any more", x, NONE);
    }

    /** "of the first such WALKS (the first with an OPEN one), by PAIRS, inputs, ANSWERS". */
    private static void firstByPairsInputsAnswers() {
        dueProved("inputs", pair(2, "XOR 2 0 1; RETURN 2", ""), UNLIKE, 0, 0, 1, 0, 0);
        dueProved("OPEN inputs", pair(2, "XOR 2 0 1; SKIP 2 3; GO 2", ""), UNDECIDED, 0, 0, 1, 0, 0);
        String call = "CALL 2 0 0; CALL 3 0 0";
        dueProved("ANSWERS", pair(2, call + "; XOR 2 2 3; RETURN 2", call), UNLIKE, 0, 0, 0, 0, 1);
        dueProved("OPEN ANSWERS", pair(2, call + "; XOR 2 2 3; SKIP 2 5; GO 4", call), UNDECIDED, 0, 0, 0, 0, 1);
        // Unlike at the inputs 1 0 with the ANSWERS 0 0, and at 0 0 with 1 0: inputs come first.
        dueProved("inputs ahead of ANSWERS", pair(2, "CALL 2 0 2; ADD 2 2 0; RETURN 2", "CALL 2 0 2"), UNLIKE, 0, 0, 0, 1, 0);
        EqualMethods x = pair(2, "SET 2 3; AND 2 2 0; RETURN 2", "SET 2 2; AND 2 2 0; RETURN 2");
        Programs.make(x, 0, "RETURN 1");
        Programs.make(x, 1, "GO 0");
        x.assume(1, 0);
        dueProved("PAIRS ahead of inputs", x, UNLIKE, 0, 1, 0, 0, 0);
        x.drop();
        x.assume(0, 1);
        x.assume(1, 1);
        dueProved("two OPEN PAIRS", x, UNDECIDED, 0, 0, 0, 0, 0);
        x.assume(1, 0);
        dueProved("unlike behind two OPEN PAIRS", x, UNLIKE, 2, 0, 1, 0, 0);
    }
}
