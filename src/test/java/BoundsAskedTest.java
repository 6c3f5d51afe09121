/** The edges that promises 36 to 39 name, a test for each sentence: kinds, asks and the trace. */
public final class BoundsAskedTest {
    private static final Check check = new Check();
    private static final int MIN = Integer.MIN_VALUE, MAX = Integer.MAX_VALUE;

    /** One of each kind, which have done 1, 1, 0, 1 and 1 behind three ticks. */
    private static final Given FIVE = new Given(check, "tell l5;w5,0;q6,0;g4,0;d7,0;s9,0;b1,9;b1,9;", "row 3 1 2",
        "image 0", "feeds l1;w1,0;b1,0", "ask 3 0", "as 0 5");
    private static final Given AT_3 = FIVE.then("ticks 3");

    public static void main(String[] args) {
        kindIsAsTold();
        asIsOfKinds0To5();
        asFindsWhatItIsNot();
        askIs0And1();
        sizeByBodies();
        markByBodies();
        theTraceIsEmptyAheadOfAnAsk();
        theTraceHasItsEnds();
        asksChangeNothing();
        check.end();
    }

    private static void kindIsAsTold() {
        FIVE.ends("kind ?", 0, 1, 4, 5).row("kind ?", 1, 2, 3, 4, 5);
        // what it does in between does not matter
        AT_3.then("shut 1").row("kind ?", 1, 2, 3, 4, 5);
        new Given(check, "tell l1;s1,0;b1,0;").ends("kind ?", 0, 5, 0, 5);
    }

    private static void asIsOfKinds0To5() {
        FIVE.ends("as 4 ?", 0, 4, 5, 4).ends("as ? 0", 0, 0, 4, 4);
        // BAD is ahead of KIND
        FIVE.refuses("as 0 6", Check.BAD).refuses("as 5 5", Check.BAD).refuses("as -1 1", Check.BAD);
    }

    private static void asFindsWhatItIsNot() {
        int no = Check.KIND;
        FIVE.row("as 0 ?", 0, 0, no, no, no, no).row("as 1 ?", 1, 1, 1, no, no, no);
        FIVE.row("as 2 ?", 2, 2, no, 2, no, no).row("as 3 ?", 3, no, no, no, 3, no);
        FIVE.row("as 4 ?", 4, no, no, no, 4, 4);
        FIVE.refuses("as 0 2", no).refuses("as 1 3", no).refuses("as 2 2", no).refuses("as 3 5", no).refuses("as 4 1", no);
        FIVE.then("as 4 4").answers("status", 0).refuses("as 3 1", no);
        // it stays what it is
        FIVE.then("as 1 1", "as 4 4").row("kind ?", 1, 2, 3, 4, 5).answers("lasts 1 0", 1);
    }

    private static void askIs0And1() {
        AT_3.badOutside("ask 0 ?", 0, 1).badOutside("ask ? 0", 0, 4).badOutside("ask ? 1", 0, 4);
        AT_3.refuses("ask 5 2", Check.BAD);
    }

    private static void asked(Given given, String ask, int answer, int... trace) {
        given.answers(ask, answer);
        for (int i = 0; i < trace.length; i++) {
            given.then(ask).answers("trace " + i, trace[i]);
        }
        given.then(ask).answers("trace " + trace.length, Check.NONE);
    }

    private static void sizeByBodies() {
        asked(AT_3, "ask 0 0", 5 + 0 + 1, 11, 10, 21, 20);
        asked(AT_3, "ask 1 0", -(6 + 2 * (1 + 1)), 12, 11, 10, 24, 21, 20);
        asked(AT_3, "ask 2 0", 4 + 2 + 0 - 1000, 11, 10, 22, 21, 20);
        asked(AT_3, "ask 3 0", 7 - 100, 13, 10);
        asked(AT_3, "ask 4 0", 2 * (9 - 100), 14, 13, 10);
        // done nothing yet
        asked(FIVE, "ask 0 0", 5, 11, 10, 21, 20);
        asked(FIVE, "ask 1 0", -(6 + 2), 12, 11, 10, 24, 21, 20);
    }

    private static void markByBodies() {
        asked(AT_3, "ask 0 1", 0 + 1, 21, 20);
        asked(AT_3, "ask 1 1", 2 * (1 + 1), 24, 21, 20);
        asked(AT_3, "ask 2 1", 2 + 0 - 1000, 22, 21, 20);
        asked(AT_3, "ask 3 1", 3 - (7 - 100), 23, 20, 13, 10);
        asked(AT_3, "ask 4 1", 4 - 2 * (9 - 100), 23, 20, 14, 13, 10);
        asked(FIVE, "ask 0 1", 0, 21, 20);
        // a greedy one that has done some
        Given greedy = new Given(check, "tell l5;d1,0;g9,0;b1,0;b1,0;", "ticks 3").answers("machine 1 5", 2);
        asked(greedy, "ask 1 1", 1 + 2 - 1000, 22, 21, 20);
        asked(greedy, "ask 1 0", 9 + 1 + 2 - 1000, 11, 10, 22, 21, 20);
    }

    private static void theTraceIsEmptyAheadOfAnAsk() {
        new Given(check).row("trace ?", Check.NONE, Check.NONE);
        new Given(check, "tell l1;w1,0;b1,0;").answers("trace 0", Check.NONE);
        // a long one, then a short one
        AT_3.then("ask 1 0", "ask 0 1").row("trace ?", 21, 20, Check.NONE, Check.NONE);
        // twice the same
        AT_3.then("ask 3 0", "ask 3 0").row("trace ?", 13, 10, Check.NONE);
        // one that is refused leaves it
        AT_3.then("ask 0 2").row("trace ?", 13, 10, Check.NONE);
        AT_3.then("ask 5 0").row("trace ?", 13, 10, Check.NONE);
        // as do acts, and another launderette
        AT_3.then("undo", "restore 0", "launderette", "tell l1;w1,0;b1,0;").row("trace ?", 13, 10, Check.NONE);
    }

    private static void theTraceHasItsEnds() {
        Given six = AT_3.then("ask 1 0").row("trace ?", 12, 11, 10, 24, 21, 20, Check.NONE);
        for (int i : new int[] {MIN, -1, 6, 15, 16, 17, MAX}) {
            six.refuses("trace " + i, Check.NONE);
        }
    }

    private static void asksChangeNothing() {
        for (int m = 0; m < 5; m++) {
            AT_3.then("ask 0 0").changesNothing("kind " + m).changesNothing("as " + m + " 0").changesNothing("trace " + m);
            // but for the trace
            AT_3.then("ask " + m + " 0", "ask 0 0").row("count ?", 1, 5, 2, 3, 2, 4, 0, 3, 12).row("stand ?", 5, 0, 0, 3, 31, 0);
        }
    }
}
