/** The edges that promises 9 to 18 and 40 name, a test for each sentence: acts, and how all stands. */
public final class BoundsDoneTest {
    private static final Check check = new Check();

    /**
     * Quick one: load 0 at ticks 0 to 2, 2 from 2 to 6, 3 from 6 to 7; dryer: 0 from 3 to 6, 1 from 6 to 8,
     * 2 from 8 to 13, 3 from 13 to 14; washer: 1 from 0 to 3.
     */
    private static final String FOUR = "tell l2;q9,0;d9,0;w3,1;b4,6;b2,3;b9,50;b1,40;";
    private static final Given AT_0 = new Given(check, FOUR, "fill 0 1 0 11 10", "row 1 0 2", "image 0", "ask 0 0", "as 0 5",
        "feeds l1;w1,0;b1,0");
    /** Load 0 is dry, 1 in the dryer, 2 wet, 3 in the quick one. */
    private static final Given AT_7 = AT_0.then("ticks 7", "image 1");
    /** One load that is never washed, late from tick 61 on. */
    private static final Given AT_984 = new Given(check, "tell l1;d9,0;b1,60;", "41*ticks 24");
    private static final Given FULL_HOUSE = new Given(check,
        "tell l5;w9,5;q9,5;g9,5;d9,5;s9,5;b9,60;b9,60;b9,60;b9,60;b9,60;b9,60;");

    public static void main(String[] args) {
        undoIsRefusedIfThereIsNone();
        everyActCanBeUndone();
        twentyFourActsAreKept();
        whatIsNoAct();
        ticksAre1To24();
        ticksUpTo999();
        machinesThatAreThere();
        loadsThatAreThere();
        shutting();
        powers();
        dues();
        againRefuses();
        againTakes();
        whatOfMachine();
        whatOfLoad();
        late();
        lasting();
        wearing();
        standing();
        counting();
        check.end();
    }

    private static void undoIsRefusedIfThereIsNone() {
        AT_0.refuses("undo", Check.STATE);
        AT_7.then("7*undo").refuses("undo", Check.STATE).answers("count 3", 0);
        AT_7.then("restore 1").refuses("undo", Check.STATE).answers("count 3", 7);
        AT_7.then("launderette").answers("undo", 6);
        AT_7.then("7*undo", "shut 0").answers("undo", 0);
        AT_7.answers("undo", 6).then("undo").answers("undo", 5).answers("count 3", 6);
    }

    private static void undone(String act, int acts, String... with) {
        Run before = new Run(with);
        Run after = new Run(with);
        after.call(act);
        check.due("acts by " + act, after.call("count 7") - before.call("count 7"), acts);
        for (int i = 0; i < acts; i++) {
            after.call("undo");
        }
        check.due(act + " undone", after.seen().equals(before.seen()) ? 1 : 0, 1);
    }

    private static void everyActCanBeUndone() {
        String[] at7 = {FOUR, "image 0", "ticks 7", "shut 2", "fill 0 1 0 11 10"};
        undone("ticks 1", 1, at7);
        undone("ticks 9", 9, at7);
        undone("shut 1", 1, at7);
        undone("shut 2", 1, at7);
        undone("power 5", 1, at7);
        undone("due 0 99", 1, at7);
        undone("due 2 0", 1, at7);
        undone("again 0 9", 1, at7);
        // one is undone and another one done instead
        AT_7.then("again 0 9", "undo", "again 0 2", "undo").row("load 0 ?", 4, 6, 2, 6, 0);
        AT_7.then("power 5", "power 4", "undo").answers("stand 0", 5).then("undo").answers("stand 0", 2);
    }

    private static void twentyFourActsAreKept() {
        AT_0.then("ticks 23").answers("count 7", 23).then("ticks 1").answers("count 7", 24).then("ticks 1")
            .answers("count 7", 24);
        AT_0.then("ticks 24", "24*undo").answers("count 3", 0).refuses("undo", Check.STATE);
        // of 25 the oldest is forgotten, whether it was a tick or another act
        AT_0.then("ticks 24", "shut 0", "23*undo").answers("count 3", 2).answers("undo", 0);
        AT_0.then("ticks 24", "shut 0", "24*undo").answers("count 3", 1).refuses("undo", Check.STATE);
        AT_0.then("power 5", "ticks 24", "24*undo").answers("stand 0", 5).answers("count 3", 0)
            .refuses("undo", Check.STATE);
        AT_0.then("power 5", "ticks 23", "24*undo").answers("stand 0", 2).answers("count 3", 0);
        AT_0.then("ticks 24", "ticks 24", "24*undo").answers("count 3", 24).refuses("undo", Check.STATE);
        AT_0.then("ticks 24", "24*undo", "ticks 24", "24*undo").answers("count 3", 0);
        AT_0.then("ticks 24", "10*undo", "ticks 24", "24*undo").answers("count 3", 14);
    }

    private static void whatIsNoAct() {
        for (String call : new String[] {"ticks 0", "ticks 25", "shut 3", "power 0", "power 6", "due 0 100", "due 4 0",
            "again 1 1", "again 0 0", "image 2", "restore 2", "machine 0 0", "load 0 0", "lasts 0 0", "stand 0",
            "ahead 0 60 0", "inside 0 60 0", "all 60 0", "when 0 1", "over", "order 50 0", "need 50", "open 50 0",
            "fills 0 0", "share 0 9", "byTurns 4 20", "who 0 0 0 0 3", "sizes 0 0 0 3", "breaks 0 60 5 0",
            "drawn 60 7 0", "kind 0", "as 0 2", "ask 0 0", "trace 0", "count 3", "status", "fault", "image 1"}) {
            AT_7.changesNothing(call);
        }
        AT_7.then("feed 1").answers("count 7", 7);
        AT_7.then("row 7 0 0").answers("count 7", 7);
        // an act that puts what was there is one, too
        AT_7.then("power 2").answers("count 7", 8);
        AT_7.then("due 0 6").answers("count 7", 8);
    }

    private static void ticksAre1To24() {
        AT_0.ends("ticks ?", 1, 0, 24, 15);
        AT_0.answers("ticks 6", 0).answers("ticks 7", 1).answers("ticks 8", 1).answers("ticks 9", 3);
        AT_0.answers("ticks 13", 3).answers("ticks 14", 7).answers("ticks 15", 15);
        AT_0.then("ticks 24").answers("count 3", 24);
        FULL_HOUSE.answers("ticks 23", 2).answers("ticks 24", 3).then("ticks 24").answers("ticks 24", 63);
    }

    private static void ticksUpTo999() {
        AT_984.answers("count 3", 984).answers("ticks 15", 0).then("ticks 15").answers("count 3", 999);
        AT_984.refuses("ticks 16", Check.FULL).refuses("ticks 24", Check.FULL);
        AT_984.refuses("ticks 25", Check.BAD).refuses("ticks 0", Check.BAD).refuses("ticks -1", Check.BAD);
        Given last = AT_984.then("ticks 14").answers("ticks 1", 0).refuses("ticks 2", Check.FULL).then("ticks 1");
        last.refuses("ticks 1", Check.FULL).refuses("ticks 25", Check.BAD).refuses("ticks " + Integer.MAX_VALUE, Check.BAD);
        last.answers("shut 0", 0).answers("undo", 23).then("undo").answers("ticks 1", 0);
        // what is foretold goes beyond
        last.answers("ahead 0 60 1", 999).answers("all 60 1", 999).answers("load 0 4", 939).answers("order 50 -1", 989);
    }

    private static void machinesThatAreThere() {
        for (String call : new String[] {"shut ?", "machine ? 0", "lasts ? 0", "inside ? 0 0", "fills ? 0", "share ? 0",
            "who ? 0 0 0 1", "kind ?", "as ? 0", "ask ? 0"}) {
            AT_7.badOutside(call, 0, 2);
        }
        FULL_HOUSE.ends("shut ?", 0, 0, 4, 0).ends("machine ? 0", 0, 9, 4, 9).ends("lasts ? 0", 0, 14, 4, 9);
        FULL_HOUSE.ends("inside ? 0 1", 0, 0, 4, 0).ends("fills ? 0", 0, 6, 4, 6).ends("share ? 9", 0, 0, 4, 0);
        FULL_HOUSE.then("row 0 0 1").ends("who ? 0 0 0 1", 0, 62, 4, 62);
        FULL_HOUSE.ends("kind ?", 0, 1, 4, 5).ends("as ? 0", 0, 0, 4, 4).ends("ask ? 1", 0, 0, 4, 186);
    }

    private static void loadsThatAreThere() {
        for (String call : new String[] {"due ? 0", "again ? 1", "load ? 0", "lasts 0 ?", "ahead ? 0 0", "when ? 1",
            "sizes ? 0 0 1", "breaks ? 0 0 0"}) {
            AT_7.badOutside(call, 0, 3);
        }
        FULL_HOUSE.ends("due ? 7", 0, 60, 5, 60).ends("again ? 1", 0, Check.STATE, 5, Check.STATE);
        FULL_HOUSE.ends("load ? 0", 0, 9, 5, 9).ends("lasts 1 ?", 0, 7, 5, 7).ends("ahead ? 1 0", 0, 10, 5, 0);
        FULL_HOUSE.then("row 0 0 1").ends("sizes ? 0 0 1", 0, 1022, 5, 1022);
        // the washer has 0 till tick 14; the quick one 1 till 7, 3 till 14, 5 till 21
        FULL_HOUSE.ends("when ? 1", 0, 15, 5, 22).ends("breaks ? 0 0 1", 0, 1, 5, 1);
    }

    private static void shutting() {
        AT_7.answers("shut 0", 0).then("shut 0").answers("shut 0", 1).answers("stand 4", 6).answers("machine 0 2", 0);
        AT_7.then("shut 0", "shut 0").answers("stand 4", 7).answers("machine 0 2", 1).answers("count 7", 9);
        AT_7.then("shut 0", "shut 1", "shut 2").answers("stand 4", 0).answers("stand 5", 3);
        // one that is shut with a load in it goes on till that comes out, and takes no other
        Given one = new Given(check, "tell l5;w9,0;b2,0;b2,0;", "ticks 1", "shut 0");
        one.row("ahead 0 ? 0", 10, 10, 1, 1).row("ahead 1 ? 0", 0, 0, 0, 0).row("inside 0 ? 1", 2, 1, 0, 0);
        one.row("inside 0 ? 2", 0, 0, 1, 1).then("ticks 2", "shut 0").row("ahead 1 ? 0", 0, 10, 10, 1);
        // and it takes its power till then
        Given power = new Given(check, "tell l1;w9,0;w9,5;b2,0;b2,0;", "ticks 1", "shut 0");
        power.row("ahead 1 ? 0", 0, 0, 11);
    }

    private static void powers() {
        AT_7.ends("power ?", 1, 2, 5, 2);
        AT_7.then("power 1").answers("stand 0", 1).answers("power 5", 1).then("power 5").answers("stand 0", 5);
        // as many at once, and not one more
        for (int v = 1; v <= 5; v++) {
            new Given(check, "tell l1;w9,0;q9,0;g9,0;w9,0;w9,0;b1,0;b1,0;b1,0;b1,0;b1,0;b1,0;", "power " + v, "ticks 1")
                .answers("stand 5", (1 << v) - 1);
        }
        // those that run go on with less power, and none goes in till fewer have a load
        Given less = new Given(check, "tell l3;w9,0;w9,0;w9,0;b1,0;b2,0;b3,0;b9,0;", "ticks 1", "power 2");
        less.answers("stand 5", 7).row("ahead 3 ? 0", 0, 0, 10).row("ahead 2 ? 0", 12, 12, 12, 1);
        // though one is empty, and more than power have a load
        Given far = new Given(check, "tell l4;w9,0;w9,0;w9,0;w9,0;b1,0;b2,0;b3,0;b4,0;b9,0;", "ticks 1", "power 2");
        far.row("ahead 4 ? 0", 0, 0, 0, 10).then("power 1").row("ahead 4 ? 0", 0, 0, 0, 0, 10);
    }

    private static void dues() {
        AT_7.ends("due 0 ?", 0, 6, 99, 6).then("due 0 99").answers("load 0 1", 99).answers("due 0 0", 99);
        AT_7.then("due 3 0").row("load ? 1", 6, 3, 50, 0);
        // of whatever load, dry or not
        AT_7.row("due ? 7", 6, 3, 50, 40, Check.BAD);
    }

    private static void againRefuses() {
        AT_7.refuses("again 1 1", Check.STATE).refuses("again 2 1", Check.STATE).refuses("again 3 1", Check.STATE);
        AT_0.refuses("again 0 1", Check.STATE);
        AT_7.refuses("again 1 0", Check.BAD).refuses("again 1 10", Check.BAD).refuses("again 4 1", Check.BAD);
        AT_7.badOutside("again 0 ?", 1, 9);
        AT_7.then("again 0 5").refuses("again 0 5", Check.STATE);
    }

    private static void againTakes() {
        AT_7.ends("again 0 ?", 1, 1, 9, 1);
        AT_7.then("again 0 9").row("load 0 ?", 9, 6, 0, Check.NONE, 1).answers("stand 3", 0).answers("stand 1", 1);
        AT_7.then("again 0 1").row("load 0 ?", 1, 6, 0, Check.NONE, 1).answers("count 4", 0);
        // the others that are dirty, too; those in a machine not
        Given some = new Given(check, "tell l5;q1,0;s9,0;w9,0;b1,0;b9,0;b8,0;b7,0;", "ticks 3").answers("stand 3", 1);
        some.answers("again 0 4", 13);
        // dry for the second time it has another end
        AT_0.then("ticks 15", "again 3 1").row("ahead 3 ? 0", 0, 10, 11, 2).then("ticks 3").answers("load 3 3", 17);
    }

    private static void whatOfMachine() {
        AT_7.row("machine 0 ?", 9, 0, 1, 3, 1, 2, 1).row("machine 1 ?", 9, 0, 1, 1, 2, 1, 0);
        AT_7.row("machine 2 ?", 3, 1, 1, Check.NONE, 0, 1, 1).badOutside("machine 0 ?", 0, 6);
        AT_7.refuses("machine 3 7", Check.BAD);
        FULL_HOUSE.row("machine ? 6", 1, 1, 1, 0, 0, Check.BAD);
        // load 0 is a load, and not none
        AT_0.then("ticks 1").row("machine ? 3", 0, Check.NONE, 1);
    }

    private static void whatOfLoad() {
        AT_0.row("load 0 ?", 4, 6, 0, Check.NONE, 0);
        AT_7.row("load 0 ?", 4, 6, 2, 6, 0).row("load 1 ?", 2, 3, 11, Check.NONE, 4).row("load 2 ?", 9, 50, 1, Check.NONE, 0);
        AT_7.row("load 3 ?", 1, 40, 10, Check.NONE, 0).badOutside("load 0 ?", 0, 4);
        // an end at tick 0 cannot be: the first load is dry at tick 2
        new Given(check, "tell l2;q9,0;s9,0;b1,0;", "ticks 3").row("load 0 ?", 1, 0, 2, 2, 2);
        FULL_HOUSE.then("ticks 1").row("load ? 2", 10, 11, 12, 0, 0, 0);
    }

    private static void late() {
        // dry with its end at tick 6
        AT_7.then("due 0 5").answers("load 0 4", 1).then("due 0 6").answers("load 0 4", 0);
        AT_7.then("due 0 7").answers("load 0 4", 0).then("due 0 99").answers("load 0 4", 0);
        AT_7.then("due 0 0").answers("load 0 4", 6).then("ticks 24").answers("load 0 4", 6);
        // not dry yet at tick 7, wet or in a machine
        AT_7.then("due 2 6").answers("load 2 4", 1).then("due 2 7").answers("load 2 4", 0);
        AT_7.then("due 3 6").answers("load 3 4", 1).then("due 3 8").answers("load 3 4", 0);
        AT_7.then("due 3 0").answers("load 3 4", 7).then("ticks 1").answers("load 3 4", 8);
        // dirty
        AT_984.answers("load 0 4", 924).then("due 0 99").answers("load 0 4", 885);
    }

    private static void lasting() {
        Given least = new Given(check, "tell l1;w1,0;q1,0;g1,0;d1,0;s1,0;b1,0;b2,0;b3,0;b4,0;b9,0;");
        least.row("lasts 0 ?", 1, 2, 3, 4, 9).row("lasts 1 ?", 1, 1, 1, 2, 4).row("lasts 2 ?", 1, 2, 3, 4, 9);
        least.row("lasts 3 ?", 1, 2, 2, 3, 5).row("lasts 4 ?", 1, 1, 1, 2, 4);
        Given slow1 = new Given(check, "tell l1;w1,1;q1,1;g1,1;d1,1;s1,1;b1,0;b2,0;b3,0;b4,0;b9,0;");
        slow1.row("lasts 0 ?", 2, 3, 4, 5, 10).row("lasts 1 ?", 1, 1, 2, 2, 5).row("lasts 2 ?", 2, 3, 4, 5, 10);
        slow1.row("lasts 3 ?", 2, 3, 3, 4, 6).row("lasts 4 ?", 1, 2, 2, 3, 5);
        FULL_HOUSE.row("lasts ? 0", 14, 7, 14, 10, 9);
        // whether it could go in or not: too great, dry, in a machine
        AT_7.row("lasts 2 ?", 5, 3, 10, 2).row("lasts 1 ?", 3, 2, 5, 1).row("lasts 0 ?", 2, 1, 4, 1);
        // and it runs just so long
        new Given(check, "tell l5;q9,0;s9,0;b1,0;").row("ahead 0 ? 0", 0, 10, 11, 2);
        new Given(check, "tell l5;q9,0;d9,0;b3,0;").row("ahead 0 ? 0", 0, 10, 11, 11, 2);
    }

    private static void wearing() {
        String round = "again 0 1";
        Given worn = new Given(check, "tell l5;g9,0;s9,0;b1,0;", "ticks 3");
        worn.answers("machine 0 5", 1).answers("lasts 0 0", 1);
        worn = worn.then(round, "ticks 3").answers("machine 0 5", 2).answers("lasts 0 0", 1);
        worn = worn.then(round, "ticks 3").answers("machine 0 5", 3).answers("lasts 0 0", 2).answers("lasts 1 0", 1);
        worn = worn.then(round, "ticks 4", round, "ticks 4").answers("machine 0 5", 5).answers("lasts 0 0", 2);
        worn.then(round, "ticks 4").answers("machine 0 5", 6).answers("lasts 0 0", 3);
        // what it has done counts when the load goes in
        Given two = new Given(check, "tell l5;g9,0;b1,0;b1,0;b1,0;b1,0;b1,0;");
        two.row("ahead 3 ? 0", 0, 0, 0, 0, 10, 10, 1).row("ahead 2 ? 0", 0, 0, 0, 10, 1);
        // a quick one does not wear; these are 508 of the 512 calls for which an object is used
        Run run = new Run("tell l5;q9,0;s9,0;b1,0;", "ticks 3");
        for (int i = 0; i < 241; i++) {
            run.call("again 0 1");
            run.call("ticks 3");
        }
        check.due("done of all", run.call("count 5"), 484);
        check.due("done", run.call("machine 0 5"), 242);
        check.due("lasts as ever", run.call("lasts 0 0"), 1);
        check.due("tick", run.call("count 3"), 726);
        check.due("acts", run.call("undo"), 23);
        check.due("undone", run.call("load 0 2"), 11);
    }

    private static void standing() {
        AT_0.row("stand ?", 2, 15, 0, 0, 7, 0).badOutside("stand ?", 0, 5);
        AT_7.row("stand ?", 2, 0, 4, 1, 7, 3);
        AT_7.then("shut 2", "again 0 1").row("stand ?", 2, 1, 4, 0, 3, 3);
        AT_0.then("ticks 15").row("stand ?", 2, 0, 0, 15, 7, 0);
        FULL_HOUSE.row("stand ?", 5, 63, 0, 0, 31, 0).then("ticks 1").row("stand ?", 5, 56, 0, 0, 31, 7);
        FULL_HOUSE.then("ticks 8").row("stand ?", 5, 48, 0, 0, 31, 15);
    }

    private static void counting() {
        AT_7.row("count ?", 2, 3, 4, 7, 1, 4, 4, 7, 12).badOutside("count ?", 0, 8);
        AT_0.then("ticks 15").row("count ?", 2, 3, 4, 15, 4, 8, 5, 15, 12);
        AT_0.row("count ?", 2, 3, 4, 0, 0, 0, 0, 0, 12);
        FULL_HOUSE.then("24*ticks 1", "ticks 24").row("count ?", 0, 5, 6, 48, 6, 12, 0, 24, 0);
    }
}
