/** The edges that promises 1 to 5 and 41 name, a test for each sentence: a new object, rows, status. */
public final class BoundsRowsTest {
    private static final Check check = new Check();
    private static final int MIN = Integer.MIN_VALUE, MAX = Integer.MAX_VALUE;

    /** Behind a tick nothing is wet or dry here: an item that is 0 fits all rooms, another one none. */
    private static final int IS_0 = 1022, IS_ANOTHER = 0;
    private static final Given ROWS = new Given(check, "tell l1;w9,5;b9,9;", "fill 0 1 0 3 0", "row 1 0 3", "row 2 1 2",
        "row 3 2 0", "row 4 2 40", "image 0", "shut 0", "shut 0", "feeds l1;w1,0;b1,0", "ask 0 0", "as 0 4");

    public static void main(String[] args) {
        aNewObjectHasNoLaunderette();
        aNewObjectRefusesMachinesAndLoads();
        rowsAre0To7();
        lanesAre0To2();
        rowsHave0To40Items();
        fewerThanNoneIsFoundBehindBad();
        aRowComesInPlaceOfWhatIsThere();
        itemsAre0AtFirst();
        setKeepsTheLowestBits();
        setFindsPlaces();
        copyFindsInItsOrder();
        copyFindsPlaces();
        copyTakesItemsAsTheyWereAhead();
        dropping();
        statusIsOfTheLatestCallWithARow();
        statusOfEachCall();
        check.end();
    }

    private static void aNewObjectHasNoLaunderette() {
        Given none = new Given(check);
        none.row("count ?", 0, 0, 0, 0, 0, 0, 0, 0, 0);
        none.answers("status", 0).answers("fault", 0).row("trace ?", Check.NONE, Check.NONE);
        for (String call : new String[] {"ticks 1", "power 1", "stand 0", "all 0 0", "over", "order 1 0", "need 1",
            "open 1 0", "byTurns 0 1", "drawn 0 1 0", "image 0", "image 1", "restore 0", "restore 1", "undo"}) {
            none.refuses(call, Check.STATE);
        }
        // "no LAUNDERETTE (ahead of BAD)"
        for (String call : new String[] {"ticks 0", "ticks 25", "power 0", "power 6", "stand -1", "stand 6", "all -1 0",
            "all 61 0", "all 0 2", "order 0 0", "order 51 0", "order 1 -2", "need 0", "need 51", "open 0 0", "open 51 0",
            "open 1 2", "byTurns -1 1", "byTurns 5 1", "byTurns 0 0", "byTurns 0 21", "drawn -1 1 0", "drawn 61 1 0",
            "drawn 0 0 0", "drawn 0 1000000 0", "drawn 0 1 2"}) {
            none.refuses(call, Check.STATE);
        }
        // of an image BAD comes ahead
        none.refuses("image -1", Check.BAD).refuses("image 2", Check.BAD);
        none.refuses("restore -1", Check.BAD).refuses("restore 2", Check.BAD);
        none.refuses("count 9", Check.BAD).refuses("count -1", Check.BAD);
        // rows are missing at first
        for (int row = 0; row < 8; row++) {
            none.refuses("drop " + row, Check.NULL).refuses("set " + row + " 0 0", Check.NULL);
            none.refuses("copy " + row + " 0 " + row + " 0 0", Check.NULL);
        }
    }

    private static void aNewObjectRefusesMachinesAndLoads() {
        Given none = new Given(check, "row 0 0 1");
        for (String call : new String[] {"shut 0", "due 0 0", "again 0 1", "machine 0 0", "load 0 0", "lasts 0 0",
            "ahead 0 0 0", "inside 0 0 0", "when 0 1", "fills 0 0", "share 0 0", "who 0 0 0 0 1", "sizes 0 0 0 1",
            "breaks 0 0 0 0", "breaks 0 0 0 1", "kind 0", "as 0 0", "ask 0 0"}) {
            none.refuses(call, Check.BAD);
        }
    }

    private static void rowsAre0To7() {
        ROWS.ends("row ? 0 1", 0, 1, 7, 1);
        ROWS.answers("set 0 0 5", 5).answers("set 7 0 5", Check.NULL).badOutside("set ? 0 5", 0, 7);
        ROWS.then("row 7 0 1").answers("set 7 0 5", 5);
        ROWS.then("row 7 2 1").answers("copy 0 0 7 0 1", 1).answers("copy 7 0 0 0 1", 1);
        ROWS.badOutside("copy ? 0 0 0 1", 0, 7).badOutside("copy 0 0 ? 0 1", 0, 7);
        ROWS.then("row 7 0 9").ends("drop ?", 0, 4, 7, 9);
        ROWS.then("fill 7 0").ends("who 0 1 ? 1 1", 0, IS_0, 7, Check.PLACE).answers("who 0 1 7 0 1", IS_0);
        ROWS.then("fill 7 0").ends("sizes 0 ? 1 1", 0, IS_0, 7, Check.PLACE).answers("sizes 0 7 0 1", IS_0);
    }

    private static void lanesAre0To2() {
        ROWS.ends("row 0 ? 1", 0, 1, 2, 1);
        ROWS.then("row 5 0 1").answers("set 5 0 74565", 0x45);
        ROWS.then("row 5 1 1").answers("set 5 0 74565", 0x2345);
        ROWS.then("row 5 2 1").answers("set 5 0 74565", 0x12345);
    }

    private static void rowsHave0To40Items() {
        Given empty = ROWS.answers("row 5 1 0", 0).then("row 5 1 0");
        empty.answers("count 0", 6).answers("drop 5", 0).refuses("set 5 0 1", Check.PLACE);
        empty.answers("copy 5 0 5 0 0", 0).refuses("copy 5 0 5 0 1", Check.PLACE);
        Given full = ROWS.answers("row 5 1 40", 40).then("row 5 1 40");
        full.answers("drop 5", 40).answers("set 5 39 9", 9).refuses("set 5 40 9", Check.PLACE);
        full.answers("copy 5 0 5 0 40", 40).refuses("copy 5 0 5 0 41", Check.PLACE);
        ROWS.refuses("row 0 2 41", Check.BAD).refuses("row 0 2 " + MAX, Check.BAD);
        ROWS.refuses("row 5 2 41", Check.BAD);
    }

    private static void fewerThanNoneIsFoundBehindBad() {
        ROWS.refuses("row 0 2 -1", Check.SIZE).refuses("row 0 2 " + MIN, Check.SIZE).refuses("row 5 0 -1", Check.SIZE);
        ROWS.refuses("row 8 2 -1", Check.BAD).refuses("row -1 2 -1", Check.BAD);
        ROWS.refuses("row 0 3 -1", Check.BAD).refuses("row 0 -1 -1", Check.BAD);
    }

    private static void aRowComesInPlaceOfWhatIsThere() {
        Given shorter = ROWS.then("row 0 0 2");
        shorter.answers("count 0", 5).answers("drop 0", 2).answers("set 0 1 300", 44).answers("set 0 2 1", Check.PLACE);
        Given longer = ROWS.then("row 0 2 6");
        longer.answers("count 0", 5).answers("drop 0", 6).row("who 0 1 0 ? 1", IS_0, IS_0, IS_0, IS_0, IS_0, IS_0);
        // though it is made short in between, or was dropped
        ROWS.then("row 0 2 1", "row 0 2 4").row("who 0 1 0 ? 1", IS_0, IS_0, IS_0, IS_0);
        ROWS.then("drop 0", "row 0 2 4").row("who 0 1 0 ? 1", IS_0, IS_0, IS_0, IS_0);
    }

    private static void itemsAre0AtFirst() {
        ROWS.row("who 0 1 0 ? 1", IS_ANOTHER, IS_0, IS_ANOTHER, IS_0, Check.PLACE);
        ROWS.row("who 0 1 1 ? 1", IS_0, IS_0, IS_0, Check.PLACE);
        ROWS.answers("who 0 1 4 28 12", IS_0).answers("who 0 1 4 0 12", IS_0).answers("who 0 1 4 39 1", IS_0);
        // what was set in one row is in no other one
        ROWS.then("fill 5 0 0", "fill 6 7 7").row("who 0 1 5 ? 1", IS_0, IS_0);
    }

    private static void setKeepsTheLowestBits() {
        Given bytes = ROWS.then("row 5 0 1");
        bytes.answers("set 5 0 127", 127).answers("set 5 0 128", -128).answers("set 5 0 -128", -128);
        bytes.answers("set 5 0 -129", 127).answers("set 5 0 255", -1).answers("set 5 0 256", 0);
        bytes.answers("set 5 0 " + MIN, 0).answers("set 5 0 " + MAX, -1);
        Given shorts = ROWS.then("row 5 1 1");
        shorts.answers("set 5 0 32767", 32767).answers("set 5 0 32768", -32768).answers("set 5 0 -32768", -32768);
        shorts.answers("set 5 0 -32769", 32767).answers("set 5 0 65535", -1).answers("set 5 0 65536", 0);
        shorts.answers("set 5 0 " + MIN, 0).answers("set 5 0 " + MAX, -1);
        Given ints = ROWS.then("row 5 2 1");
        ints.answers("set 5 0 " + MIN, MIN).answers("set 5 0 " + MAX, MAX).answers("set 5 0 -1", -1);
        // and that is what stands in the row then
        bytes.then("set 5 0 256").answers("who 0 1 5 0 1", IS_0);
        bytes.then("set 5 0 1").answers("who 0 1 5 0 1", IS_ANOTHER);
        shorts.then("set 5 0 65536").answers("who 0 1 5 0 1", IS_0);
        shorts.then("set 5 0 256").answers("who 0 1 5 0 1", IS_ANOTHER);
        ints.then("set 5 0 65536").answers("who 0 1 5 0 1", IS_ANOTHER);
    }

    private static void setFindsPlaces() {
        ROWS.answers("set 0 0 9", 9).answers("set 0 3 9", 9);
        ROWS.refuses("set 0 -1 9", Check.PLACE).refuses("set 0 4 9", Check.PLACE);
        ROWS.refuses("set 0 " + MIN + " 9", Check.PLACE).refuses("set 0 " + MAX + " 9", Check.PLACE);
        ROWS.refuses("set 3 0 9", Check.PLACE).refuses("set 4 40 9", Check.PLACE);
        ROWS.refuses("set 5 0 9", Check.NULL).refuses("set 5 -1 9", Check.NULL);
        ROWS.refuses("set 8 -1 9", Check.BAD);
        // one item changes, and no other one
        ROWS.then("set 0 0 0", "set 0 3 1").row("who 0 1 0 ? 1", IS_0, IS_0, IS_ANOTHER, IS_ANOTHER);
    }

    private static void copyFindsInItsOrder() {
        ROWS.refuses("copy 8 -1 5 -1 -1", Check.BAD).refuses("copy 5 -1 8 -1 -1", Check.BAD);
        ROWS.refuses("copy 0 0 5 0 1", Check.NULL).refuses("copy 5 0 0 0 1", Check.NULL);
        ROWS.refuses("copy 5 0 6 0 1", Check.NULL).refuses("copy 5 0 5 0 0", Check.NULL);
        ROWS.refuses("copy 0 -1 5 0 1", Check.NULL).refuses("copy 5 0 0 0 -1", Check.NULL);
        ROWS.refuses("copy 0 0 1 0 1", Check.STORE).refuses("copy 1 0 2 0 0", Check.STORE);
        ROWS.refuses("copy 2 0 0 0 1", Check.STORE).refuses("copy 0 9 1 9 -9", Check.STORE);
    }

    private static void copyFindsPlaces() {
        ROWS.answers("copy 0 0 4 0 4", 4).answers("copy 0 0 4 36 4", 4).answers("copy 4 36 0 0 4", 4);
        ROWS.refuses("copy 0 0 4 0 5", Check.PLACE).refuses("copy 0 1 4 0 4", Check.PLACE);
        ROWS.refuses("copy 0 0 4 37 4", Check.PLACE).refuses("copy 4 37 0 0 4", Check.PLACE);
        ROWS.refuses("copy 4 0 0 1 4", Check.PLACE).refuses("copy 4 0 0 0 5", Check.PLACE);
        ROWS.refuses("copy 0 -1 4 0 1", Check.PLACE).refuses("copy 0 0 4 -1 1", Check.PLACE);
        ROWS.refuses("copy 0 0 4 0 -1", Check.PLACE).refuses("copy 0 0 4 0 " + MIN, Check.PLACE);
        // none at the very end, but not beyond it
        ROWS.answers("copy 0 4 4 40 0", 0).answers("copy 3 0 3 0 0", 0);
        ROWS.refuses("copy 0 5 4 0 0", Check.PLACE).refuses("copy 0 0 4 41 0", Check.PLACE);
        ROWS.refuses("copy 0 -1 4 0 0", Check.PLACE).refuses("copy 0 0 4 -1 0", Check.PLACE);
        // sums that go around the greatest int
        ROWS.refuses("copy 0 " + MAX + " 4 0 1", Check.PLACE).refuses("copy 0 0 4 " + MAX + " 1", Check.PLACE);
        ROWS.refuses("copy 0 1 4 1 " + MAX, Check.PLACE).refuses("copy 0 " + MAX + " 4 0 " + MAX, Check.PLACE);
        ROWS.refuses("copy 0 " + MIN + " 4 0 " + MIN, Check.PLACE).refuses("copy 0 " + MIN + " 4 0 1", Check.PLACE);
        ROWS.refuses("copy 0 0 4 " + MIN + " " + MIN, Check.PLACE).refuses("copy 0 1 4 0 " + MIN, Check.PLACE);
    }

    private static void copyTakesItemsAsTheyWereAhead() {
        // row 0 is 1 0 3 0
        Given up = ROWS.then("copy 0 0 0 1 3");
        up.row("who 0 1 0 ? 1", IS_ANOTHER, IS_ANOTHER, IS_0, IS_ANOTHER);
        Given down = ROWS.then("copy 0 1 0 0 3");
        down.row("who 0 1 0 ? 1", IS_0, IS_ANOTHER, IS_0, IS_0);
        Given whole = ROWS.then("copy 0 0 0 0 4");
        whole.row("who 0 1 0 ? 1", IS_ANOTHER, IS_0, IS_ANOTHER, IS_0);
        Given other = ROWS.then("copy 0 0 4 36 3");
        other.answers("who 0 1 4 35 1", IS_0).answers("who 0 1 4 36 1", IS_ANOTHER).answers("who 0 1 4 37 1", IS_0);
        other.answers("who 0 1 4 38 1", IS_ANOTHER).answers("who 0 1 4 39 1", IS_0);
        other.row("who 0 1 0 ? 1", IS_ANOTHER, IS_0, IS_ANOTHER, IS_0);
        // what is copied stays as it is when that from which it came changes
        ROWS.then("row 5 2 1", "copy 0 1 5 0 1", "set 0 1 9").answers("who 0 1 5 0 1", IS_0);
        ROWS.changesNothing("copy 0 0 4 0 0");
        // bytes to bytes, shorts to shorts
        ROWS.then("set 1 0 5", "row 5 0 3", "copy 1 0 5 2 1").row("who 0 1 5 ? 1", IS_0, IS_0, IS_ANOTHER);
        ROWS.then("set 2 1 5", "row 5 1 3", "copy 2 0 5 0 2").row("who 0 1 5 ? 1", IS_0, IS_ANOTHER, IS_0);
    }

    private static void dropping() {
        ROWS.answers("drop 3", 0).answers("drop 4", 40).answers("drop 0", 4);
        ROWS.refuses("drop 5", Check.NULL).refuses("drop 7", Check.NULL);
        Given dropped = ROWS.then("drop 0");
        dropped.answers("count 0", 4).refuses("drop 0", Check.NULL).refuses("set 0 0 1", Check.NULL);
        dropped.refuses("copy 0 0 4 0 0", Check.NULL).refuses("copy 4 0 0 0 0", Check.NULL);
        dropped.refuses("who 0 0 0 0 1", Check.NULL).refuses("sizes 0 0 0 1", Check.NULL);
        dropped.answers("row 0 1 3", 3).then("row 0 1 3").answers("count 0", 5);
        Given all = new Given(check, "row 0 0 1", "row 1 0 1", "row 2 0 1", "row 3 0 1", "row 4 0 1", "row 5 0 1",
            "row 6 0 1", "row 7 0 1");
        all.answers("count 0", 8).then("row 7 2 2").answers("count 0", 8);
    }

    private static void statusIsOfTheLatestCallWithARow() {
        Given none = new Given(check);
        none.answers("status", 0).then("row 0 0 1").answers("status", 0).then("count 0").answers("status", 0);
        Given found = ROWS.then("drop 5").answers("status", 1);
        // a call with a row that is BAD, or STATE, leaves it
        for (String bad : new String[] {"row 8 0 0", "row 0 3 0", "row 0 0 41", "set 8 0 0", "copy 8 0 0 0 0",
            "copy 0 0 8 0 0", "drop 8", "who 9 0 0 0 1", "who 0 3 0 0 1", "who 0 0 8 0 1", "who 0 0 0 0 0",
            "sizes 9 0 0 1", "sizes 0 8 0 1", "sizes 0 0 0 13", "as 1 0", "as 0 6"}) {
            check.due(bad, new Run("tell l1;w9,5;b9,9;").call(bad), Check.BAD);
            found.then(bad).answers("status", 1);
        }
        found.then("ticks 1").answers("sizes 0 0 0 1", Check.STATE);
        found.then("ticks 1", "sizes 0 0 0 1").answers("status", 1);
        // a call without one leaves it, too, as status() itself does
        for (String other : new String[] {"feed 1", "feed 256", "launderette", "fault", "undo", "ticks 1", "ticks 0",
            "shut 0", "shut 9", "power 1", "due 0 1", "again 0 1", "machine 0 0", "load 0 0", "lasts 0 0", "stand 0",
            "ahead 0 0 0", "inside 0 0 0", "all 0 0", "when 0 1", "over", "order 1 0", "need 1", "open 1 0", "fills 0 0",
            "share 0 1", "byTurns 0 1", "breaks 0 0 0 0", "drawn 0 1 0", "image 1", "restore 0", "restore 1", "kind 0",
            "ask 0 0", "ask 0 9", "trace 0", "count 0", "status"}) {
            found.then(other).answers("status", 1);
        }
    }

    private static void statusOfEachCall() {
        Given found = ROWS.then("row 0 0 -1").answers("status", 4);
        found.then("row 5 0 0").answers("status", 0);
        found.then("set 0 0 1").answers("status", 0);
        found.then("copy 0 0 0 0 0").answers("status", 0);
        found.then("drop 0").answers("status", 0);
        found.then("who 0 0 0 1 1").answers("status", 0);
        found.then("sizes 0 0 0 1").answers("status", 0);
        found.then("as 0 0").answers("status", 0);
        found.then("set 0 4 1").answers("status", 2).then("set 6 4 1").answers("status", 1);
        found.then("copy 0 0 6 0 0").answers("status", 1);
        found.then("copy 0 0 1 0 0").answers("status", 5);
        found.then("copy 0 0 0 0 5").answers("status", 2);
        found.then("drop 6").answers("status", 1);
        found.then("who 0 0 6 0 1").answers("status", 1);
        found.then("who 0 0 0 4 1").answers("status", 2);
        found.then("sizes 0 6 0 1").answers("status", 1);
        found.then("sizes 0 0 4 1").answers("status", 2);
        found.then("as 0 5").answers("status", 3);
    }
}
