/** The fullest launderette, with 5 machines and 6 loads, and the smallest one that is told in its place. */
public final class BoundsFullTest {
    private static final Check check = new Check();

    /**
     * Washer: load 0 till tick 14, 4 till 28; quick one: 1 till 7, 3 till 14, 5 till 21; greedy one: 2 till 14;
     * dryer: 1 till 17, 2 till 27, 5 till 37; spinner: 0 till 23, 3 till 32, 4 till 41.
     */
    private static final String FULL = "tell l5;w9,5;q9,5;g9,5;d9,5;s9,5;b9,60;b9,60;b9,60;b9,60;b9,60;b9,60;";
    private static final String SMALL = "tell l1;q1,0;b1,0;";
    private static final Given GIVEN = new Given(check, FULL);

    public static void main(String[] args) {
        foretoldOfAll();
        plannedOfAll();
        sharedByAll();
        turnsWithAll();
        guessedOfAll();
        brokenAndDrawn();
        theSmallestBehindTheFullest();
        check.end();
    }

    private static void foretoldOfAll() {
        GIVEN.row("when ? 1", 15, 8, 15, 15, 29, 22).row("when ? 2", 24, 18, 28, 33, 42, 38).answers("over", 42);
        GIVEN.answers("all 41 0", 47).answers("all 42 0", 63).answers("all 60 1", 0);
        GIVEN.row("inside ? 42 2", 2, 3, 1, 3, 3).row("inside ? 15 0", 4, 5, Check.NONE, 1, 0);
        GIVEN.row("inside ? 15 1", 14, 7, 0, 3, 9).row("ahead ? 15 0", 14, 13, 1, 1, 10, 11);
        GIVEN.then("ticks 24", "ticks 18").row("load ? 3", 23, 17, 27, 32, 41, 37).answers("count 5", 12);
    }

    private static void plannedOfAll() {
        GIVEN.row("order 50 ?", 0, 1, 2, 3, 4, 5, Check.NONE).answers("order 50 -1", 0);
        // with 3 at once as with 5; for 42 ticks more is needed than for 50
        GIVEN.answers("need 50", 3).answers("need 41", Check.NONE).answers("open 50 0", 4).answers("open 50 1", 27);
        GIVEN.answers("open 41 0", Check.NONE).answers("open 41 1", Check.NONE);
        // all late from the first tick on: six times 9 ticks
        Given late = GIVEN.then("due 0 0", "due 1 0", "due 2 0", "due 3 0", "due 4 0", "due 5 0");
        late.answers("order 9 -1", 54).row("order 9 ?", 0, 1, 2, 3, 4, 5, Check.NONE);
    }

    private static void sharedByAll() {
        Given done = GIVEN.then("ticks 24", "ticks 18");
        done.row("share ? 999", 167, 250, 84, 249, 249, Check.BAD).row("share ? 12", 2, 3, 1, 3, 3);
        // 1, 2, 0, 2 and 2: 4 are over
        done.row("share ? 11", 2, 3, 1, 3, 2).row("share ? 1", 1, 0, 0, 0, 0).row("share ? 0", 0, 0, 0, 0, 0);
        GIVEN.row("fills ? 0", 6, 6, 6, 6, 6, Check.BAD).row("fills 4 ?", 6, 0, 63);
    }

    private static void turnsWithAll() {
        // behind 20 ticks load 1 is dry, unless the quick one was shut
        GIVEN.row("byTurns ? 20", 1, 0, 1, 0, 1);
        GIVEN.then("shut 1").row("byTurns ? 20", 0, 0, 1, 0, 1);
        // nothing is open but what the other one opens: the spinner, with load 0 till tick 23, or the dryer, till 27
        new Given(check, FULL, "ticks 8", "shut 0", "shut 1", "shut 2", "shut 3", "shut 4").row("byTurns ? 20", 1, 1, 2, 1, 2);
    }

    private static void guessedOfAll() {
        // 2 and 3 are wet; load 1 is dry behind 18 ticks, and 2 goes in; 5 is wet behind 22; 0 is dry behind 24, 3 goes in
        Given at14 = GIVEN.then("ticks 14", "fill 0 2 2 2 11 11 11 11 12 12 21 21 21");
        at14.answers("who 4 2 0 0 8", 48).answers("who 4 2 0 0 9", 32).answers("who 4 2 0 0 12", 32);
        // a dryer would be a tick later; a quick one in place of the washer would have load 4 washed too soon
        at14.answers("who 4 0 0 0 3", 48).answers("who 4 0 0 0 9", 48).answers("who 4 0 0 0 10", 32);
        at14.answers("who 4 1 0 0 12", 512).answers("who 0 0 0 0 12", 10);
        // load 5 fits into the quick one whichever its size is, and is not wet behind one tick
        at14.answers("sizes 5 0 0 1", 1022).refuses("sizes 0 0 0 1", Check.STATE);
    }

    private static void brokenAndDrawn() {
        GIVEN.answers("breaks 2 30 4 0", 567).answers("breaks 2 30 4 1", 3125);
        // none of them breaks, all of them do
        GIVEN.row("breaks ? 42 0 0", 1, 1, 1, 1, 1, 1, Check.BAD).row("breaks ? 42 0 1", 1, 1, 1, 1, 1, 1, Check.BAD);
        GIVEN.row("breaks ? 60 10 0", 0, 0, 0, 0, 0, 0).row("breaks ? 60 10 1", 1, 1, 1, 1, 1, 1);
        // 1 gives 16807, 282475249, 1622650073, 984943658, 1144108930, 470211272: none is divided by 3
        GIVEN.answers("drawn 6 1 0", 0).answers("drawn 6 1 1", 0);
        // 3 gives 50421 and 847425747, by 5: machine 1 is shut ahead of tick 0, machine 2 ahead of tick 1
        Given late = GIVEN.then("due 0 0");
        late.answers("drawn 2 3 1", 2).answers("drawn 2 3 0", 0);
        // behind 42 ticks all are dry: 16807 by 6 is load 1, which comes again
        Given dry = GIVEN.then("ticks 24", "ticks 18", "due 1 0").answers("count 6", 17);
        dry.answers("drawn 1 1 1", 0).answers("drawn 1 1 0", 0);
    }

    private static void theSmallestBehindTheFullest() {
        String[] asks = {"count 1", "count 2", "count 3", "count 4", "count 5", "count 6", "count 7", "stand 0", "stand 1",
            "stand 2", "stand 3", "stand 4", "stand 5", "machine 0 0", "machine 0 3", "machine 0 4", "machine 0 5", "machine 1 0",
            "machine 4 0", "load 0 0", "load 0 2", "load 0 3", "load 1 0", "load 5 0", "lasts 0 0", "lasts 1 0", "lasts 0 1",
            "ahead 0 60 0", "ahead 1 60 0", "inside 0 60 2", "inside 1 0 0", "all 60 0", "all 60 1", "when 0 1", "when 0 2",
            "when 1 1", "over", "order 50 -1", "order 50 0", "order 50 1", "need 50", "open 50 0", "open 50 1", "fills 0 0",
            "fills 0 1", "fills 0 2", "fills 1 0", "share 0 999", "share 1 999", "byTurns 0 20", "byTurns 4 20",
            "who 0 0 0 0 3", "who 1 0 0 0 1", "sizes 0 0 0 3", "sizes 1 0 0 1", "breaks 0 60 5 0", "breaks 0 60 5 1",
            "breaks 1 0 0 0", "drawn 60 7 0", "drawn 60 7 1", "drawn 60 99 1", "kind 0", "kind 1", "as 1 0", "ask 0 0",
            "ask 0 1", "ask 1 0", "again 0 1", "again 1 1", "shut 1", "due 1 0", "undo"};
        for (String more : new String[] {"count 0", "ticks 2", "shut 0"}) {
            Run fresh = new Run(SMALL, "fill 0 0 1 1", more);
            Run behind = new Run(FULL, "image 0", "ticks 24", "ticks 24", "again 3 7", "order 50 -1", "all 9 0", SMALL,
                "fill 0 0 1 1", more);
            for (String ask : asks) {
                check.due(ask + " behind a full one, and " + more, behind.call(ask), fresh.call(ask));
            }
        }
    }
}
