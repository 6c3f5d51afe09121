/** The edges that promises 27 to 35 name, a test for each sentence: fills, shares, turns, guesses, draws, images. */
public final class BoundsGuessedTest {
    private static final Check check = new Check();
    private static final int MIN = Integer.MIN_VALUE, MAX = Integer.MAX_VALUE;

    /** Behind 7 ticks load 0 is dry, 1 in the dryer, 2 wet, 3 in the quick one; these have done 2, 1 and 1. */
    private static final Given AT_7 = told("l2;q9,0;d9,0;w3,1;b4,6;b2,3;b9,50;b1,40;", "fill 0 1 0 11 10", "image 0",
        "ticks 7", "image 1", "feeds l1;w1,0;b1,0");
    /** The washer has the load till tick 8, the dryer till tick 11: dry behind 12 ticks. */
    private static final Given IN_12 = told("l1;w9,4;d9,0;b4,0;", "fill 0 0 0 0 0 0 0 0 0 0 0 0 10 10 10",
        "fill 1 0 0 0 0 0 0 0 0 0 0 0 0");
    /** Dry behind 60 ticks: 61, of which one has gone by. */
    private static final Given IN_60 = told("l2;w9,5;s9,0;b9,0;b9,0;b9,0;b9,0;", "ticks 1");
    /** Dry behind 3 ticks, if neither is shut. */
    private static final Given SHORT = told("l2;q9,0;s9,0;b1,0;");

    public static void main(String[] args) {
        fillsAreOfWhatIsNotDry();
        fillsTogetherHaveTheRoomJust();
        shareIsOf0To999();
        shareCutsAndGivesWhatIsOver();
        shareIsNoneIfNoneHasDoneAny();
        turnsAre0To4();
        turnsAreFor1To20Ticks();
        turnsGoByTurns();
        turnsMayDoNothing();
        whoRefusesInItsOrder();
        whoIsOf1To12Items();
        whoTellsBits();
        whatIsInItStays();
        sizesRefusesInItsOrder();
        sizesIsOf1To12Items();
        sizesTellsBits();
        aRowTellsWetAndDry();
        breaksIsBy0To10();
        breaksIsFor0To60();
        breaksIsAFraction();
        drawnIsFor0To60();
        drawnBySeeds();
        drawnComesAgain();
        drawnDueIs99AtMost();
        drawnShutsAndOpens();
        imagesAre0And1();
        restoring();
        check.end();
    }

    private static Given told(String text, String... more) {
        return new Given(check, "tell " + text).then(more);
    }

    private static void fillsAreOfWhatIsNotDry() {
        // room 9: load 2 alone; room 3: 1 and 3, in machines both
        AT_7.row("fills 0 ?", 1, 4, 4).row("fills 2 ?", 1, 10, 10).badOutside("fills 0 ?", 0, 2);
        AT_7.refuses("fills 3 3", Check.BAD);
        // ahead of it load 0 was not dry: 4, 2, 1 are no 9 either, and 4 is no 3
        AT_7.then("7*undo").row("fills 0 ?", 1, 4, 4);
        told("l2;q9,0;s4,0;b4,0;b3,0;b1,0;").row("fills 1 ?", 2, 0, 7).then("ticks 5").answers("stand 3", 1)
            .row("fills 1 ?", 1, 6, 6);
        // one that has come again counts, of its size then
        told("l2;q9,0;s4,0;b4,0;b3,0;b1,0;", "ticks 5", "again 0 1").row("fills 1 ?", 2, 2, 7);
        // none at all
        SHORT.then("ticks 3").row("fills 0 ?", 0, 0, 0);
    }

    private static void fillsTogetherHaveTheRoomJust() {
        told("l1;w9,0;b1,0;b1,0;b1,0;b2,0;b2,0;b2,0;").row("fills 0 ?", 1, 63, 63);
        told("l1;w8,0;b1,0;b1,0;b1,0;b2,0;b2,0;b2,0;").row("fills 0 ?", 3, 56, 63);
        told("l1;w1,0;b1,0;").row("fills 0 ?", 1, 1, 1);
        told("l1;w1,0;b2,0;").row("fills 0 ?", 0, 0, 0);
        told("l1;w2,0;b1,0;").row("fills 0 ?", 0, 0, 0);
        told("l1;w9,0;b9,0;b9,0;b9,0;b9,0;b9,0;b9,0;").row("fills 0 ?", 6, 0, 63);
        // whether it is shut, or has a load in it, or dries
        told("l1;d5,0;b2,0;b3,0;b4,0;", "shut 0").row("fills 0 ?", 1, 3, 3);
        told("l1;w5,0;b2,0;b3,0;b4,0;", "ticks 1").row("fills 0 ?", 1, 3, 3);
    }

    private static void shareIsOf0To999() {
        AT_7.ends("share 0 ?", 0, 0, 999, 500).ends("share 2 ?", 0, 0, 999, 249);
        AT_7.refuses("share 3 1000", Check.BAD);
    }

    private static void shareCutsAndGivesWhatIsOver() {
        AT_7.row("share ? 999", 500, 250, 249).row("share ? 4", 2, 1, 1).row("share ? 5", 3, 1, 1);
        AT_7.row("share ? 3", 2, 1, 0).row("share ? 2", 2, 0, 0).row("share ? 1", 1, 0, 0).row("share ? 7", 4, 2, 1);
        // what is over goes to the first ones that have done any
        Given idle = told("l2;w1,0;q9,0;w1,0;s9,0;b4,0;", "ticks 9").row("machine ? 5", 0, 1, 0, 1);
        idle.row("share ? 1", 0, 1, 0, 0).row("share ? 3", 0, 2, 0, 1).row("share ? 2", 0, 1, 0, 1);
        idle.row("share ? 999", 0, 500, 0, 499);
        // shut ones have done what they have done
        idle.then("shut 1").row("share ? 3", 0, 2, 0, 1);
    }

    private static void shareIsNoneIfNoneHasDoneAny() {
        SHORT.row("share ? 999", 0, 0).then("ticks 1").row("share ? 999", 0, 0).then("ticks 1").row("share ? 999", 999, 0);
    }

    /** Two loads: dry are both, or one if the quick one, or the spinner, is shut for the 10 ticks. */
    private static final Given TURNS = told("l5;q9,0;w9,5;s9,0;d9,5;b1,0;b1,0;");

    private static void turnsAre0To4() {
        TURNS.ends("byTurns ? 10", 0, 2, 4, 2).row("byTurns ? 10", 2, 1, 2, 1, 2);
        TURNS.refuses("byTurns 5 21", Check.BAD).refuses("byTurns -1 0", Check.BAD);
    }

    private static void turnsAreFor1To20Ticks() {
        // washed till tick 14, dry at 19
        Given in20 = told("l2;w9,5;s9,1;b9,0;").ends("byTurns 0 ?", 1, 0, 20, 1).answers("byTurns 0 19", 0);
        in20.then("ticks 19").answers("byTurns 0 1", 1).answers("byTurns 4 1", 1);
        in20.badOutside("byTurns 4 ?", 1, 20);
    }

    private static void turnsGoByTurns() {
        // the one begins, and shuts: with the spinner shut already it is the dryer that it takes
        TURNS.then("shut 2").row("byTurns ? 10", 1, 0, 1, 0, 1);
        // what is shut goes on till its load comes out
        SHORT.then("ticks 2").row("byTurns ? 20", 1, 1, 1, 1, 1);
        SHORT.then("ticks 1").row("byTurns ? 20", 1, 0, 1, 0, 1);
        // two that are shut cannot both be opened by one turn, but by two, if the other one could not shut them
        SHORT.then("shut 0", "shut 1").row("byTurns ? 20", 0, 0, 0, 0, 0);
        TURNS.then("shut 2", "shut 3").row("byTurns ? 10", 0, 0, 1, 0, 1);
        // the last of all that are shut is opened: the load in the quick one comes out wet, and is spun
        SHORT.then("ticks 1", "shut 0", "shut 1").row("byTurns ? 20", 0, 0, 1, 0, 1);
    }

    private static void turnsMayDoNothing() {
        // all are shut: the one can do nothing else
        SHORT.then("ticks 2", "shut 0", "shut 1").row("byTurns ? 1", 1, 1, 1, 1, 1);
        // all are open: the other one can do nothing else; and what it would open here does harm:
        // load 2, wet at tick 8, would go into the slow spinner till 12, and not into the other at 9
        Given harm = told("l3;s8,2;s3,4;g5,1;b1,18;b3,18;b1,19;b1,4;b3,2;b8,12;", "shut 1");
        harm.answers("byTurns 0 12", 3).answers("byTurns 1 12", 0).answers("byTurns 2 12", 3);
        harm.then("shut 1").answers("byTurns 0 12", 2);
    }

    private static void whoRefusesInItsOrder() {
        for (String bad : new String[] {"who 3 0 0 0 1", "who -1 0 0 0 1", "who 0 3 0 0 1", "who 0 -1 0 0 1",
            "who 0 0 8 0 1", "who 0 0 -1 0 1", "who 0 0 0 0 0", "who 0 0 0 0 13", "who 0 0 0 0 " + MIN,
            "who 0 0 0 0 " + MAX, "who 3 0 7 -1 1", "who 0 3 7 -1 1", "who 0 0 7 -1 13", "who 0 0 7 -1 0"}) {
            AT_7.refuses(bad, Check.BAD);
        }
        AT_7.refuses("who 0 0 1 0 1", Check.NULL).refuses("who 0 0 1 -1 1", Check.NULL).refuses("who 0 0 7 9 12", Check.NULL);
        AT_7.refuses("who 0 0 0 -1 1", Check.PLACE).refuses("who 0 0 0 4 1", Check.PLACE);
        AT_7.refuses("who 0 0 0 0 5", Check.PLACE).refuses("who 0 0 0 3 2", Check.PLACE);
        AT_7.refuses("who 0 0 0 " + MAX + " 1", Check.PLACE).refuses("who 0 0 0 " + MAX + " 12", Check.PLACE);
        AT_7.refuses("who 0 0 0 " + MIN + " 1", Check.PLACE).refuses("who 0 2 0 -12 12", Check.PLACE);
        AT_7.then("row 2 0 0").refuses("who 0 0 2 0 1", Check.PLACE);
    }

    private static void whoIsOf1To12Items() {
        IN_12.ends("who 0 2 0 0 ?", 1, 63, 12, 16).answers("who 0 2 0 0 11", 48).answers("who 0 2 1 0 12", 32);
        // the last place of a row, and one beyond
        IN_12.answers("who 0 2 0 2 12", 4).refuses("who 0 2 0 3 12", Check.PLACE);
        IN_12.then("row 2 0 40").answers("who 0 2 2 28 12", 32).refuses("who 0 2 2 29 12", Check.PLACE);
        IN_12.answers("who 0 2 0 13 1", 0).refuses("who 0 2 0 14 1", Check.PLACE);
    }

    private static void whoTellsBits() {
        // behind one tick nothing has happened, whichever it is: kinds 1 to 5, rooms 1 to 9, slownesses 0 to 5
        IN_12.answers("who 0 0 0 0 1", 62).answers("who 0 1 0 0 1", 1022).answers("who 0 2 0 0 1", 63);
        IN_12.answers("who 1 0 0 0 1", 62).answers("who 1 1 0 0 1", 1022).answers("who 1 2 0 0 1", 63);
        // a washer, or a greedy one that has done nothing yet; of room 4 at least
        IN_12.answers("who 0 0 0 0 12", 10).answers("who 0 1 0 0 12", 1008).answers("who 0 2 0 0 12", 16);
        IN_12.answers("who 1 0 0 0 12", 16).answers("who 1 1 0 0 12", 1008).answers("who 1 2 0 0 12", 1);
        // a spinner is 1 tick faster
        told("l1;w9,4;s9,1;b4,0;", "fill 0 0 0 0 0 0 0 0 0 0 0 0 10").answers("who 1 0 0 0 12", 32);
        told("l1;w9,4;s9,0;b4,0;", "fill 0 0 0 0 0 0 0 0 0 0 0 10 10").answers("who 1 0 0 0 12", 32)
            .answers("who 1 2 0 0 12", 1).answers("who 0 2 0 0 12", 16);
        // none fits
        IN_12.then("fill 2 10").answers("who 0 0 2 0 1", 0).answers("who 0 1 2 0 1", 0).answers("who 0 2 2 0 1", 0);
        IN_12.then("fill 2 0").changesNothing("who 0 0 2 0 1");
        // what it has done stays: a greedy one would need a tick more
        told("l1;w9,0;s9,0;b1,0;", "ticks 3", "again 0 1", "ticks 3", "again 0 1", "ticks 3", "again 0 1", "fill 0 0 0 10",
            "fill 1 0 0 0").answers("who 0 0 0 0 3", 6).answers("who 0 0 1 0 3", 56);
        // shut it stays, and takes nothing, whatever it is
        IN_12.then("shut 0").answers("who 0 0 1 0 12", 62).answers("who 0 1 1 0 12", 1022).answers("who 0 2 1 0 12", 63);
    }

    private static void whatIsInItStays() {
        // 8 ticks are left of the washer, whichever its room and slowness are
        Given in = IN_12.then("ticks 1").answers("machine 0 4", 8);
        in.answers("who 0 1 0 1 11", 1022).answers("who 0 2 0 1 11", 63);
        // out of any that washes it comes wet, and is dry at tick 11
        in.answers("who 0 0 0 1 11", 14);
        // out of one that dries it comes dry, at tick 8
        in.then("fill 2 0 0 0 0 0 0 0 10 10 10 10 10").answers("who 0 0 2 0 12", 48);
        // and out of a dryer taken for one that washes it comes wet
        Given dries = told("l1;q1,0;d9,1;b1,0;", "ticks 2").answers("load 0 2", 11).answers("machine 1 4", 2);
        dries.then("fill 2 0 10").answers("who 1 0 2 0 2", 48);
        dries.then("fill 2 0 1").answers("who 1 0 2 0 2", 14);
    }

    private static void sizesRefusesInItsOrder() {
        for (String bad : new String[] {"sizes 4 0 0 1", "sizes -1 0 0 1", "sizes 0 8 0 1", "sizes 0 -1 0 1", "sizes 0 0 0 0",
            "sizes 0 0 0 13", "sizes 0 0 0 " + MIN, "sizes 0 0 0 " + MAX}) {
            AT_7.refuses(bad, Check.BAD);
        }
        // BAD is ahead of STATE, that of NULL, that of PLACE
        AT_7.refuses("sizes 1 8 0 1", Check.BAD).refuses("sizes 1 0 0 13", Check.BAD).refuses("sizes 3 0 0 0", Check.BAD);
        AT_7.refuses("sizes 1 0 0 1", Check.STATE).refuses("sizes 3 0 0 1", Check.STATE);
        AT_7.refuses("sizes 1 7 0 1", Check.STATE).refuses("sizes 1 0 -1 1", Check.STATE);
        AT_7.refuses("sizes 2 7 0 1", Check.NULL).refuses("sizes 2 7 -1 1", Check.NULL);
        AT_7.refuses("sizes 2 0 -1 1", Check.PLACE).refuses("sizes 2 0 4 1", Check.PLACE).refuses("sizes 2 0 0 5", Check.PLACE);
        AT_7.refuses("sizes 2 0 " + MAX + " 12", Check.PLACE).refuses("sizes 2 0 " + MIN + " 1", Check.PLACE);
    }

    private static void sizesIsOf1To12Items() {
        IN_12.ends("sizes 0 0 0 ?", 1, 1022, 12, 16).answers("sizes 0 0 0 11", 1008).answers("sizes 0 1 0 12", 992);
        IN_12.refuses("sizes 0 0 3 12", Check.PLACE).answers("sizes 0 0 2 12", 8);
    }

    private static void sizesTellsBits() {
        // too great for the room it is dirty for ever: 5 to 9
        Given room4 = told("l1;w4,0;d9,0;b1,0;", "fill 0 0 0 0 0 0 0 0 0 0 0 0 0").answers("sizes 0 0 0 12", 992);
        room4.answers("sizes 0 0 0 1", 1022).then("fill 1 10").answers("sizes 0 1 0 1", 0);
        // of one that is wet, and of one that is dry, whose size matters no more
        told("l1;q9,0;b1,0;", "ticks 2", "fill 0 1 1").answers("sizes 0 0 0 2", 1022);
        SHORT.then("ticks 3", "fill 0 10 10").answers("sizes 0 0 0 2", 1022);
        told("l1;q9,0;d5,0;b1,0;", "shut 1", "ticks 2", "shut 1", "fill 0 0 0 10").answers("sizes 0 0 0 3", 12)
            .answers("sizes 0 0 0 2", 60);
        SHORT.then("fill 0 0").changesNothing("sizes 0 0 0 1");
    }

    private static void aRowTellsWetAndDry() {
        // behind 8 ticks 2 and 3 are wet, 0 is dry; then 1 is dry and 2 goes in; 3 waits till tick 13, if no other one dries
        AT_7.then("fill 1 12 21 21 21 21 21 30 40 40 40 40 40").answers("who 2 0 1 0 12", 14).answers("who 1 0 1 0 12", 16);
        // wet ones in a machine do not count
        told("l1;q9,0;d9,0;b1,0;", "fill 1 0 0 10").answers("who 0 0 1 0 3", 14).then("shut 1").answers("who 0 0 1 0 3", 0);
        told("l1;q9,0;d9,0;b1,0;", "shut 1", "fill 1 0 1 1").answers("who 0 0 1 0 3", 14);
        // six of them
        told("l5;q9,0;q9,0;q9,0;q9,0;q9,0;b1,0;b1,0;b1,0;b1,0;b1,0;b1,0;", "fill 1 0 5 6").answers("who 0 2 1 0 3", 7);
        told("l5;q9,0;s9,0;b1,0;b1,0;b1,0;b1,0;b1,0;b1,0;", "ticks 7", "fill 1 60").answers("who 0 0 1 0 1", 62);
    }

    private static void breaksTo(Given given, String with, long above, long below) {
        given.answers("breaks " + with + " 0", above).answers("breaks " + with + " 1", below);
    }

    private static void breaksIsBy0To10() {
        SHORT.ends("breaks 0 60 ? 0", 0, 1, 10, 0).ends("breaks 0 60 ? 1", 0, 1, 10, 1);
        breaksTo(SHORT, "0 60 1", 81, 100);
        breaksTo(SHORT, "0 60 9", 1, 100);
        SHORT.badOutside("breaks 0 60 5 ?", 0, 1).refuses("breaks 1 61 11 2", Check.BAD);
    }

    private static void breaksIsFor0To60() {
        IN_60.ends("breaks 3 ? 0 0", 0, 0, 60, 1).ends("breaks 3 ? 5 1", 0, 1, 60, 4).answers("breaks 3 59 0 0", 0);
        breaksTo(SHORT, "0 2 5", 0, 1);
        breaksTo(SHORT, "0 3 5", 1, 4);
        breaksTo(SHORT.then("ticks 3"), "0 0 5", 1, 1);
    }

    private static void breaksIsAFraction() {
        // lowest terms; 0 is 0 by 1, and all is 1 by 1
        breaksTo(SHORT, "0 60 5", 1, 4);
        breaksTo(SHORT, "0 60 2", 16, 25);
        breaksTo(SHORT, "0 60 8", 1, 25);
        breaksTo(SHORT, "0 0 3", 0, 1);
        // each apart: one of two washers, and the dryer
        breaksTo(told("l5;w9,0;w9,0;d9,0;b2,0;"), "0 60 3", 637, 1000);
        // one of four washers, and the dryer: 9999 by 10000 times 9 by 10
        breaksTo(told("l5;w9,0;w9,0;w9,0;w9,0;d9,0;b2,0;"), "0 60 1", 89991, 100000);
        // one that is shut does not break, and is not opened
        breaksTo(SHORT.then("shut 0"), "0 60 0", 0, 1);
        breaksTo(told("l5;w9,0;w9,0;d9,0;b2,0;", "shut 1"), "0 60 3", 49, 100);
        // one with a load in it goes on, though it breaks
        breaksTo(SHORT.then("ticks 1"), "0 60 3", 7, 10);
        breaksTo(SHORT.then("ticks 2"), "0 60 3", 1, 1);
        breaksTo(SHORT.then("ticks 2"), "0 60 10", 1, 1);
        // all are shut: that is sure
        breaksTo(SHORT.then("ticks 2", "shut 0", "shut 1"), "0 60 5", 1, 1);
        breaksTo(SHORT.then("shut 0", "shut 1"), "0 60 5", 0, 1);
    }

    private static void drawnIsFor0To60() {
        told("l1;d1,0;b9,0;").ends("drawn ? 1 1", 0, 0, 60, 60).ends("drawn ? 1 0", 0, 0, 60, 0);
        SHORT.badOutside("drawn 60 1 ?", 0, 1).refuses("drawn 61 0 2", Check.BAD);
        AT_7.changesNothing("drawn 60 12345 0");
    }

    private static void drawnBySeeds() {
        SHORT.ends("drawn 0 ? 0", 1, 0, 999999, 0);
        // 999999 gives 1774597664, 1410049312, 1216742139: the spinner is shut, but goes on with the load in it
        SHORT.ends("drawn 3 ? 0", 1, 1, 999999, 1).ends("drawn 3 ? 1", 1, 2, 999999, 2);
        // 3 gives 50421, 847425747: the spinner is shut ahead of tick 0, open ahead of tick 1
        SHORT.answers("drawn 3 3 0", 1).then("shut 1").answers("drawn 3 3 0", 0).answers("drawn 3 3 1", 3);
    }

    private static void drawnComesAgain() {
        // 1 gives 16807, 282475249, 1622650073, and then 984943658: of size 3, due at tick 3 and 18
        SHORT.row("drawn ? 1 0", 0, 0, 0, 1, 1).row("drawn ? 1 1", 0, 1, 2, 2, 0);
        // 9 gives 151263: size 1, due at 6, and no machine is shut, though 3 divides it; 1718948775 shuts one that goes on
        Given dry = told("l2;q1,0;s1,0;b1,0;", "ticks 3");
        dry.row("drawn ? 9 0", 0, 0, 0, 1).row("drawn ? 9 1", 2, 0, 0, 0);
        // 2 gives 33614: size 9, too great for a room of 8; due at tick 3 and 14
        told("l2;q8,0;s8,0;b1,0;", "ticks 3").answers("drawn 60 2 0", 0).answers("drawn 60 2 1", 46);
        // one that is not dry does not come again: it is late by its own due
        told("l1;w9,0;b1,5;").answers("drawn 60 1 1", 55);
        // the load that is the rest by how many there are: 16807 by 2 is load 1
        Given two = told("l2;q1,0;s1,0;b1,0;b1,0;", "ticks 4").answers("stand 3", 3);
        two.answers("load 1 4", 3).answers("drawn 1 1 1", 2).answers("drawn 1 2 1", 3);
    }

    private static void drawnDueIs99AtMost() {
        // 16807: size 5, too great, due at the tick and 7
        Given dry = told("l2;q1,0;s1,0;b1,0;", "3*ticks 24");
        dry.then("ticks 19").answers("count 3", 91).answers("drawn 60 1 1", 53);
        dry.then("ticks 20").answers("drawn 60 1 1", 53);
        dry.then("ticks 21").answers("drawn 60 1 1", 54);
        dry.then("30*ticks 24").answers("count 3", 792).answers("drawn 1 1 1", 694);
    }

    private static void drawnShutsAndOpens() {
        // 6 gives 100842, 1694851494: the quick one is shut ahead of tick 0, open ahead of tick 1
        SHORT.row("drawn ? 6 0", 0, 0, 0, 0, 1).answers("drawn 4 6 1", 3);
        // 9 gives 151263, 394793594, 1718948775: the spinner is shut till tick 2
        SHORT.row("drawn ? 9 0", 0, 0, 0, 0, 1).answers("drawn 3 9 1", 3);
    }

    private static void imagesAre0And1() {
        AT_7.ends("image ?", 0, 1, 1, 1).ends("restore ?", 0, 1, 1, 1);
        Given one = SHORT.then("image 1").answers("restore 1", 1).refuses("restore 0", Check.STATE);
        one.refuses("restore 2", Check.BAD).refuses("restore -1", Check.BAD);
        SHORT.refuses("restore 0", Check.STATE).refuses("restore 1", Check.STATE);
        // it is kept of the launderette as it is then, and the latest stands
        one.then("ticks 2", "image 1", "ticks 1", "restore 1").answers("count 3", 2);
        one.then("ticks 2", "image 0", "restore 1").answers("count 3", 0).then("restore 0").answers("count 3", 2);
    }

    private static void restoring() {
        Given restored = AT_7.then("shut 0", "power 5", "due 2 9", "again 0 9", "ticks 9", "restore 1");
        restored.row("count ?", 1, 3, 4, 7, 1, 4, 4, 0, 12).row("stand ?", 2, 0, 4, 1, 7, 3);
        restored.row("load 0 ?", 4, 6, 2, 6, 0).row("load 1 ?", 2, 3, 11, Check.NONE, 4).row("machine 1 ?", 9, 0, 1, 1, 2, 1);
        restored.refuses("undo", Check.STATE).then("ticks 1").answers("undo", 0);
        // what is done then does not change the image
        restored.then("ticks 9", "shut 1", "restore 1").answers("count 3", 7).answers("stand 4", 7);
        // an image stays when another launderette is told, and brings its own back
        AT_7.then("launderette", "tell l1;w1,0;b1,0;", "restore 0").row("count ?", 1, 3, 4, 0, 0, 0, 0, 0, 0);
        // it holds no rows, no trace, no tape, no fault and no status
        Given others = SHORT.then("image 0", "row 3 0 2", "ask 0 1", "as 0 5", "launderette", "feed 1", "restore 0");
        others.answers("count 0", 1).answers("drop 3", 2).answers("trace 0", 24).answers("status", 3).answers("fault", 1)
            .answers("count 8", 1);
        // keeping one is no act, and leaves those that can be undone
        AT_7.then("image 0").answers("count 7", 7).answers("undo", 6);
    }
}
