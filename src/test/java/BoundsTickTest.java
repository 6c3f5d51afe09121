/** What a TICK is, a test for each sentence: what comes out, what goes in, and what does not. */
public final class BoundsTickTest {
    private static final Check check = new Check();

    public static void main(String[] args) {
        leftIs1LessTillItIs0();
        washersGiveWetDryersGiveDry();
        doneIs1MoreAsItComesOut();
        theEndIsThisTick();
        whatComesOutGoesInInTheSameTick();
        whatHasBecomeEmptyTakesInTheSameTick();
        fewerThanPowerThen();
        theFirstLoadByNumbers();
        noMoreSizeThanRoom();
        onlyDirtyIntoWashersOnlyWetIntoDryers();
        oneLoadInOneMachine();
        shutOnesTakeNothing();
        tickIs1More();
        check.end();
    }

    private static Given told(String text, String... more) {
        return new Given(check, "tell " + text).then(more);
    }

    private static void leftIs1LessTillItIs0() {
        Given x = told("l1;w9,1;b2,0;");
        x.row("inside 0 ? 1", 0, 3, 2, 1, 0, 0).row("inside 0 ? 0", Check.NONE, 0, 0, 0, Check.NONE, Check.NONE);
        x.row("ahead 0 ? 0", 0, 10, 10, 10, 1, 1);
        told("l1;q9,0;b1,0;").row("inside 0 ? 1", 0, 1, 0);
        told("l1;w9,5;b9,0;").answers("inside 0 1 1", 14).answers("inside 0 14 1", 1).answers("inside 0 15 1", 0);
    }

    private static void washersGiveWetDryersGiveDry() {
        for (char sort : new char[] {'w', 'q', 'g'}) {
            told("l1;" + sort + "9,0;b1,0;").row("ahead 0 ? 0", 0, 10, 1, 1).answers("machine 0 6", 1);
        }
        for (char sort : new char[] {'d', 's'}) {
            told("l1;w9,0;" + sort + "9,0;b1,0;").row("ahead 0 ? 0", 0, 10, 11, 2, 2).answers("machine 1 6", 0);
        }
    }

    private static void doneIs1MoreAsItComesOut() {
        Given x = told("l5;w9,0;d9,0;b1,0;b1,0;");
        x.row("inside 0 ? 2", 0, 0, 1, 2, 2).row("inside 1 ? 2", 0, 0, 0, 1, 2, 2);
    }

    private static void theEndIsThisTick() {
        // in at tick 0, out and in again at tick 1, out at tick 2, behind which the tick is 3
        Given x = told("l5;w9,0;d9,0;b1,0;", "ticks 3");
        x.answers("load 0 3", 2).answers("count 3", 3).answers("load 0 4", 2);
        told("l5;w9,0;d9,0;b1,0;", "ticks 2").answers("load 0 3", Check.NONE).answers("load 0 4", 2);
        told("l5;w9,0;d9,0;b1,2;", "ticks 3").answers("load 0 4", 0);
        told("l5;w9,0;d9,0;b1,1;", "ticks 3").answers("load 0 4", 1);
    }

    private static void whatComesOutGoesInInTheSameTick() {
        told("l5;w9,0;d9,0;b1,0;").row("ahead 0 ? 0", 0, 10, 11, 2);
        // also into a machine of a lower number
        told("l5;d9,0;w9,0;b1,0;").row("ahead 0 ? 0", 0, 11, 10, 2);
        // with power for one alone, as it has come out
        told("l1;w9,0;d9,0;b1,0;").row("ahead 0 ? 0", 0, 10, 11, 2);
    }

    private static void whatHasBecomeEmptyTakesInTheSameTick() {
        told("l1;w9,0;b2,0;b2,0;").row("ahead 1 ? 0", 0, 0, 0, 10, 10, 1).row("ahead 0 ? 0", 0, 10, 10, 1);
        // one that is emptied late makes room for one ahead of it: power is counted when all have come out
        told("l1;d9,0;w9,0;b1,0;b1,0;").row("ahead 0 ? 0", 0, 11, 10, 2).row("ahead 1 ? 0", 0, 0, 0, 11, 10, 2);
    }

    private static void fewerThanPowerThen() {
        // one that has gone in in this tick counts
        told("l1;w9,0;w9,0;b1,0;b1,0;").row("ahead 1 ? 0", 0, 0, 10).row("ahead 0 ? 0", 0, 10, 1);
        told("l2;w9,0;w9,0;b1,0;b1,0;").row("ahead 1 ? 0", 0, 11, 1);
        told("l2;w9,0;w9,0;w9,0;b2,0;b1,0;b1,0;").row("ahead 2 ? 0", 0, 0, 11, 1);
        // a machine ahead by numbers goes first, whichever sort it is
        told("l1;w9,0;d9,0;b1,0;b1,0;").row("ahead 0 ? 0", 0, 10, 1, 11, 2).row("ahead 1 ? 0", 0, 0, 10, 1, 11);
        told("l1;d9,0;w9,0;b1,0;b1,0;").answers("all 3 0", 1);
        // one that finds no load takes no power
        told("l1;d9,0;s9,0;w9,0;b1,0;").answers("ahead 0 1 0", 12);
        told("l1;w1,0;w9,0;b2,0;").answers("ahead 0 1 0", 11);
    }

    private static void theFirstLoadByNumbers() {
        told("l1;w9,0;b9,60;b1,0;").row("ahead 0 ? 0", 0, 10).row("ahead 1 ? 0", 0, 0);
        // wet ones by their numbers, too, not as they came out
        told("l2;w9,5;q1,0;w9,0;d9,0;b9,0;b1,0;b8,0;", "shut 3", "ticks 24").answers("stand 2", 7)
            .then("shut 3").answers("inside 3 1 0", 0);
        // one that has come again is ahead of those with greater numbers
        told("l5;q9,0;s9,0;b1,0;b9,0;b9,0;", "ticks 4", "again 0 1").row("inside 0 ? 0", 1, 1, 0, 2);
    }

    private static void noMoreSizeThanRoom() {
        told("l1;w3,0;b3,0;").answers("ahead 0 1 0", 10);
        told("l1;w3,0;b4,0;").answers("ahead 0 1 0", 0).answers("ahead 0 60 0", 0);
        told("l1;w3,0;b4,0;b3,0;").answers("ahead 1 1 0", 10);
        told("l1;w9,0;b9,0;").answers("ahead 0 1 0", 10);
        told("l1;w1,0;b1,0;").answers("ahead 0 1 0", 10);
        told("l1;w9,0;d3,0;b3,0;").row("ahead 0 ? 0", 0, 10, 10, 10, 11);
        told("l1;w9,0;d3,0;b4,0;").answers("ahead 0 5 0", 1).answers("ahead 0 60 0", 1);
        // of a size that is another, too
        told("l5;q9,0;s2,0;b2,0;", "ticks 3").answers("again 0 3", 1).then("again 0 3").row("ahead 0 ? 0", 0, 10, 1, 1);
    }

    private static void onlyDirtyIntoWashersOnlyWetIntoDryers() {
        for (char sort : new char[] {'w', 'q', 'g'}) {
            told("l5;" + sort + "9,0;b1,0;", "ticks 24").answers("load 0 2", 1).answers("machine 0 5", 1);
        }
        for (char sort : new char[] {'d', 's'}) {
            told("l5;" + sort + "9,0;b1,0;", "ticks 24").answers("load 0 2", 0).answers("machine 0 5", 0);
        }
        // a dry one goes into none
        told("l5;w9,0;d9,0;b1,0;", "ticks 24").answers("load 0 2", 2).answers("machine 0 5", 1).answers("machine 1 5", 1);
    }

    private static void oneLoadInOneMachine() {
        told("l5;w9,0;q9,0;g9,0;b1,0;", "ticks 1").answers("stand 5", 1).answers("load 0 2", 10);
        told("l5;w9,0;b1,0;b1,0;", "ticks 1").answers("stand 1", 2);
    }

    private static void shutOnesTakeNothing() {
        told("l5;w9,0;w9,0;b1,0;", "shut 0").answers("ahead 0 1 0", 11);
        told("l5;w9,0;b1,0;", "shut 0").answers("ahead 0 60 0", 0);
        told("l5;w9,0;d9,0;b1,0;", "shut 1").answers("ahead 0 60 0", 1);
        told("l5;w9,0;d9,0;b1,0;", "shut 1", "ticks 9", "shut 1").row("ahead 0 ? 0", 1, 11, 2);
        // shut while it runs, opened again before that ends: as if nothing had been
        told("l5;w9,0;b2,0;b1,0;", "ticks 1", "shut 0", "ticks 1", "shut 0").row("inside 0 ? 0", 0, 1, Check.NONE);
    }

    private static void tickIs1More() {
        told("l1;d9,0;b1,0;").answers("count 3", 0).then("ticks 1").answers("count 3", 1).then("ticks 24")
            .answers("count 3", 25);
    }
}
