/** The edges that promises 19 to 26 name, a test for each sentence: what is foretold, and planned. */
public final class BoundsForetoldTest {
    private static final Check check = new Check();

    /** Washed at ticks 14, 28, 42, 56, dry at 18, 32, 46, 60: behind 61 ticks all are dry. */
    private static final Given IN_61 = told("l2;w9,5;s9,0;b9,0;b9,0;b9,0;b9,0;");
    private static final Given IN_60 = IN_61.then("ticks 1");
    /** Washed at ticks 8, 17, 31, 45, dry at 9, 19, 35, 49: behind 50 ticks all are dry. */
    private static final Given IN_50 = told("l2;w9,5;s9,0;b3,0;b4,0;b9,0;b9,0;");
    private static final Given NEVER = told("l1;d1,0;b9,0;");

    public static void main(String[] args) {
        aheadIsFor0To60();
        aheadTellsHowItIs();
        aheadTellsLate();
        insideIsFor0To60();
        insideTells();
        allIsFor0To60();
        whenIsWithin60();
        whenTellsTheFirst();
        overIsWithin60();
        orderIsFor1To50();
        orderTellsTheKth();
        orderTakesTheLeastLate();
        orderTakesMostDryOfSeveral();
        orderTakesTheFirstOfSeveral();
        orderIsFromNowOn();
        needIsFor1To50();
        needIsTheLeast();
        keepIsFor1To50();
        keepIsTheFewest();
        keepIsTheLeastOfSeveral();
        check.end();
    }

    private static Given told(String text, String... more) {
        return new Given(check, "tell " + text).then(more);
    }

    private static void aheadIsFor0To60() {
        IN_61.ends("ahead 3 ? 0", 0, 0, 60, 11).ends("ahead 3 ? 1", 0, 0, 60, 60);
        IN_60.ends("ahead 3 ? 0", 0, 0, 60, 2).answers("ahead 3 59 0", 11);
        IN_61.badOutside("ahead 3 0 ?", 0, 1).badOutside("ahead 3 60 ?", 0, 1);
        IN_61.refuses("ahead 4 61 2", Check.BAD);
    }

    private static void aheadTellsHowItIs() {
        Given x = told("l5;w9,0;q9,0;g9,0;d9,0;s9,0;b1,0;b2,0;b3,0;b9,0;");
        x.row("ahead 0 ? 0", 0, 10, 13, 2, 2);
        x.row("ahead 1 ? 0", 0, 11, 14, 2);
        x.row("ahead 2 ? 0", 0, 12, 12, 12, 13, 13, 2);
        x.row("ahead 3 ? 0", 0, 0, 10, 10, 10, 10, 10, 10, 10, 10, 10, 13);
        told("l5;w9,0;b1,0;").row("ahead 0 ? 0", 0, 10, 1, 1);
        // behind no tick it is as it is
        IN_61.then("ticks 15").row("ahead ? 0 0", 11, 10, 0, 0);
    }

    private static void aheadTellsLate() {
        // its end is at tick 18
        told("l2;w9,5;s9,0;b9,18;").answers("ahead 0 18 1", 0).answers("ahead 0 19 1", 0).answers("ahead 0 60 1", 0);
        told("l2;w9,5;s9,0;b9,17;").answers("ahead 0 17 1", 0).answers("ahead 0 18 1", 1).answers("ahead 0 60 1", 1);
        NEVER.row("ahead 0 ? 1", 0, 1, 2, 3).answers("ahead 0 60 1", 60);
        told("l1;d1,0;b9,60;").answers("ahead 0 60 1", 0).then("ticks 1").answers("ahead 0 60 1", 1);
    }

    private static void insideIsFor0To60() {
        IN_61.ends("inside 1 ? 0", 0, Check.NONE, 60, 3).ends("inside 1 ? 1", 0, 0, 60, 1).ends("inside 1 ? 2", 0, 0, 60, 3);
        IN_60.ends("inside 1 ? 0", 0, Check.NONE, 60, Check.NONE).ends("inside 1 ? 2", 0, 0, 60, 4);
        IN_61.badOutside("inside 1 0 ?", 0, 2).badOutside("inside 1 60 ?", 0, 2).refuses("inside 2 61 3", Check.BAD);
    }

    private static void insideTells() {
        // load 0 in it is not none; empty: 0 left
        IN_61.answers("inside 0 1 0", 0).answers("inside 0 1 1", 14).answers("inside 0 14 1", 1).answers("inside 0 15 1", 14);
        IN_61.answers("inside 1 14 1", 0).answers("inside 1 15 1", 4).answers("inside 1 15 0", 0);
        IN_61.answers("inside 1 18 1", 1).answers("inside 1 19 1", 0).answers("inside 1 19 0", Check.NONE);
        IN_61.answers("inside 1 18 2", 0).answers("inside 1 19 2", 1).answers("inside 0 57 0", Check.NONE);
        IN_61.then("ticks 15").answers("inside 0 0 0", 1).answers("inside 0 0 1", 14).answers("inside 0 0 2", 1);
    }

    private static void allIsFor0To60() {
        IN_61.ends("all ? 0", 0, 0, 60, 7).ends("all ? 1", 0, 0, 60, 156);
        IN_60.ends("all ? 0", 0, 0, 60, 15).ends("all ? 1", 0, 4, 60, 156).answers("all 59 0", 7);
        IN_61.badOutside("all 0 ?", 0, 1).badOutside("all 60 ?", 0, 1).answers("all 19 0", 1).answers("all 18 0", 0);
    }

    private static void whenIsWithin60() {
        IN_61.answers("when 3 2", Check.NONE).then("ticks 1").answers("when 3 2", 60).then("ticks 1").answers("when 3 2", 59);
        // five times 12: the last one is washed at tick 60
        Given washed = told("l1;w9,5;b7,0;b7,0;b7,0;b7,0;b7,0;").answers("when 4 1", Check.NONE).answers("when 3 1", 49);
        washed.then("ticks 1").answers("when 4 1", 60).answers("when 4 2", Check.NONE);
        IN_61.badOutside("when 0 ?", 1, 2).refuses("when 4 3", Check.BAD);
    }

    private static void whenTellsTheFirst() {
        // into the spinner in the tick in which it comes out
        IN_61.row("when ? 1", 15, 29, 43, 57).row("when ? 2", 19, 33, 47, Check.NONE);
        // in one that washes: not yet; in one that dries, or dry: behind 0
        IN_61.then("ticks 14").answers("when 0 1", 1).answers("when 0 2", 5);
        IN_61.then("ticks 15").answers("when 0 1", 0).answers("when 0 2", 4);
        IN_61.then("ticks 19").answers("when 0 1", 0).answers("when 0 2", 0);
        // wet, waiting for ever
        told("l1;w9,0;b1,0;").answers("when 0 1", 2).answers("when 0 2", Check.NONE).then("ticks 2")
            .answers("when 0 1", 0).answers("when 0 2", Check.NONE);
        NEVER.answers("when 0 1", Check.NONE).answers("when 0 2", Check.NONE);
        // one that came again was dry, but is not
        told("l5;q9,0;s9,0;b1,0;", "ticks 3", "again 0 4").answers("when 0 1", 3).answers("when 0 2", 5);
    }

    private static void overIsWithin60() {
        IN_61.answers("over", Check.NONE).then("ticks 1").answers("over", 60).then("ticks 1").answers("over", 59);
        IN_60.then("ticks 24", "ticks 24", "ticks 11").answers("over", 1).then("ticks 1").answers("over", 0)
            .then("ticks 24").answers("over", 0);
        NEVER.answers("over", Check.NONE);
        // all but one are not all
        told("l5;q5,0;s9,0;b1,0;b6,0;").answers("over", Check.NONE).answers("when 0 2", 3);
    }

    private static void orderIsFor1To50() {
        NEVER.ends("order ? -1", 1, 1, 50, 50).ends("order ? 0", 1, 0, 50, 0);
        NEVER.then("ticks 24").ends("order ? -1", 1, 25, 50, 74);
        IN_50.ends("order ? -1", 1, 4, 50, 112);
    }

    private static void orderTellsTheKth() {
        Given six = told("l1;d9,0;b1,0;b1,0;b1,0;b1,0;b1,0;b1,0;");
        for (int k = 0; k < 6; k++) {
            six.answers("order 50 " + k, k);
        }
        six.answers("order 50 6", Check.NONE).answers("order 50 " + Integer.MAX_VALUE, Check.NONE);
        six.refuses("order 50 -2", Check.BAD).refuses("order 50 " + Integer.MIN_VALUE, Check.BAD);
        six.refuses("order 51 6", Check.BAD).refuses("order 0 6", Check.BAD).answers("order 50 -1", 300);
        NEVER.answers("order 1 0", 0).answers("order 1 1", Check.NONE).answers("order 1 5", Check.NONE);
    }

    private static void kths(Given given, int n, long late, int... loads) {
        given.answers("order " + n + " -1", late);
        for (int k = 0; k < loads.length; k++) {
            given.answers("order " + n + " " + k, loads[k]);
        }
        given.answers("order " + n + " " + loads.length, Check.NONE);
    }

    private static void orderTakesTheLeastLate() {
        // the shorter, the earlier: dry at 2, 4, 7, 12, 17, 24; the last of all 720 orders
        kths(told("l2;w9,0;s9,0;b6,0;b5,0;b4,0;b3,0;b2,0;b1,0;"), 50, 66, 5, 4, 3, 2, 1, 0);
        // by numbers that is the first of all
        kths(told("l2;w9,0;s9,0;b1,0;b2,0;b3,0;b4,0;b5,0;b6,0;"), 50, 66, 0, 1, 2, 3, 4, 5);
        // load 0 first: dry at 7, which is late by 7, and no other is dry behind 8 ticks;
        // load 0 last: both others are dry behind 8, but it is late by 8
        kths(told("l2;w9,0;s9,0;b5,0;b1,60;b1,60;"), 8, 7, 0, 1, 2);
    }

    private static void orderTakesMostDryOfSeveral() {
        // none is late, but the short one alone can be dry behind 3 to 8 ticks
        Given x = told("l2;q9,0;s9,0;b9,60;b1,60;");
        kths(x, 3, 0, 1, 0);
        // behind 9 the long one can, too, but not both: one is dry either way
        kths(x, 8, 0, 1, 0);
        kths(x, 9, 0, 0, 1);
        kths(x, 2, 0, 0, 1);
        kths(x, 50, 0, 0, 1);
    }

    private static void orderTakesTheFirstOfSeveral() {
        kths(told("l2;w9,0;s9,0;b5,0;b1,0;b5,0;"), 50, 23, 1, 0, 2);
        kths(told("l2;w9,0;s9,0;b5,0;b5,0;b1,0;"), 50, 23, 2, 0, 1);
        kths(told("l2;w9,0;s9,0;b1,0;b5,0;b5,0;"), 50, 23, 0, 1, 2);
        // none can be dry behind 1 tick: any order is as good
        kths(told("l2;w9,0;s9,0;b6,0;b5,0;b1,0;"), 1, 3, 0, 1, 2);
    }

    private static void orderIsFromNowOn() {
        // load 0 is in the washer already, whichever its place, and dry at 17 in any order
        Given x = told("l2;w9,0;s9,0;b9,0;b1,0;", "ticks 1");
        kths(x, 50, 27, 0, 1);
        kths(told("l2;w9,0;s9,0;b9,0;b1,0;"), 50, 16, 1, 0);
        // rank of loads is by numbers as ever behind it
        new Given(check, "tell l2;w9,0;s9,0;b9,0;b1,0;", "order 50 0", "ticks 1").answers("load 0 2", 10);
        // and what is asked for is found anew when something has changed
        Given asked = told("l2;w9,0;s9,0;b9,0;b1,0;", "order 50 -1");
        asked.then("due 0 99").answers("order 50 -1", 2);
        asked.then("due 0 99", "order 50 -1", "undo").answers("order 50 -1", 16);
        asked.then("power 1").answers("order 50 -1", 26);
        asked.then("shut 1").answers("order 50 -1", 100);
        asked.then("ticks 1").answers("order 50 -1", 27);
        asked.then("image 0", "shut 1", "order 50 -1", "restore 0").answers("order 50 -1", 16);
        asked.then("tell l1;d1,0;b9,0;").answers("order 50 -1", 50);
        asked.then("tell l1;d1,0;b9").answers("order 50 -1", 16);
        asked.answers("order 49 -1", 16).answers("order 1 -1", 2).then("order 1 -1").answers("order 50 -1", 16);
        told("l2;q9,0;s9,0;b1,0;", "ticks 3", "order 50 -1", "again 0 1").answers("order 50 -1", 5);
    }

    private static void needIsFor1To50() {
        IN_50.ends("need ?", 1, Check.NONE, 50, 2).answers("need 49", Check.NONE);
        IN_50.then("ticks 24", "ticks 24", "ticks 1").ends("need ?", 1, 1, 50, 1);
        IN_50.then("ticks 24", "ticks 24", "ticks 2").ends("need ?", 1, 1, 50, 1);
    }

    private static void needIsTheLeast() {
        // power 1: all are washed first; the longer takes 9 and 4, the shorter 1 and 1
        Given x = told("l5;w9,0;s9,0;b9,0;b1,0;");
        x.answers("need 16", 1).answers("need 15", 2).answers("need 14", Check.NONE);
        // whatever the power is now
        x.then("power 1").answers("need 15", 2).answers("need 16", 1);
        // five at once, and no fewer
        Given five = told("l1;g9,0;q9,1;s9,1;d9,0;q9,0;b6,0;b5,0;b8,0;b8,0;b6,0;");
        five.answers("need 15", 5).answers("need 14", Check.NONE);
        NEVER.answers("need 50", Check.NONE);
        // none is needed, but power is 1 at least
        told("l5;q9,0;s9,0;b1,0;", "ticks 3").answers("need 1", 1);
        // those that are shut stay so
        x.then("shut 1").answers("need 50", Check.NONE);
    }

    private static void keepIsFor1To50() {
        IN_50.ends("open ? 0", 1, Check.NONE, 50, 2).ends("open ? 1", 1, Check.NONE, 50, 3);
        IN_50.answers("open 49 0", Check.NONE).answers("open 49 1", Check.NONE).badOutside("open 50 ?", 0, 1);
        IN_50.then("ticks 24", "ticks 24", "ticks 2").ends("open ? 0", 1, 0, 50, 0).ends("open ? 1", 1, 0, 50, 0);
    }

    private static void keepIsTheFewest() {
        // the two that are shut behind, spinner and quick one, need 12 ticks; 0, 1 and the spinner 13, 1 and it 16
        Given x = told("l3;w4,3;w7,2;g3,2;s9,3;q6,3;b1,4;b5,0;");
        x.answers("open 11 0", Check.NONE).answers("open 12 0", 2).answers("open 12 1", 24);
        x.answers("open 13 0", 2).answers("open 13 1", 24).answers("open 16 1", 10).answers("open 15 1", 24);
        // shut ones may be open then, all others are shut
        x.then("shut 3", "shut 4").answers("open 12 1", 24);
        // all of them
        Given five = told("l5;g9,0;q9,1;s9,1;d9,0;q9,0;b6,0;b5,0;b8,0;b8,0;b6,0;");
        five.answers("open 15 0", 5).answers("open 15 1", 31).answers("open 14 1", Check.NONE);
        five.then("power 1").answers("open 15 0", Check.NONE);
        // none: what is in a dryer comes out by itself
        told("l2;q9,0;s9,0;b4,0;", "ticks 3").answers("open 1 0", Check.NONE).answers("open 2 0", 0).answers("open 2 1", 0);
        told("l2;q9,0;s9,0;b4,0;", "ticks 1").answers("open 50 0", 1).answers("open 50 1", 2);
        NEVER.answers("open 50 0", Check.NONE).answers("open 50 1", Check.NONE);
    }

    private static void keepIsTheLeastOfSeveral() {
        Given x = told("l5;w9,0;w9,0;d9,0;d9,0;b1,0;");
        x.answers("open 3 0", 2).answers("open 3 1", 5).then("shut 0", "shut 2").answers("open 3 1", 5);
        // as bits: 6 is less than 9
        told("l5;w9,5;w9,0;d9,0;d9,0;b1,0;").answers("open 3 1", 6).answers("open 9 1", 5);
        told("l5;d9,0;w9,0;s9,0;q9,0;b2,0;").answers("open 4 1", 6).answers("open 5 1", 3);
    }
}
