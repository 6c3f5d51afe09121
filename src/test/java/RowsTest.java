/** Promises 1 to 5 and 41: rows, their findings, and status. */
public final class RowsTest {
    private static final Check check = new Check();

    public static void main(String[] args) {
        newObject();
        making();
        setting();
        copying();
        dropping();
        statusKeepsTheLatest();
        check.end();
    }

    private static void newObject() {
        LaundryLoads x = new LaundryLoads();
        check.dues("count", x::count, 0, 0, 0, 0, 0, 0, 0, 0, 0, Check.BAD);
        check.due("count(-1)", x.count(-1), Check.BAD);
        check.due("status", x.status(), 0);
        check.due("fault", x.fault(), 0);
        check.due("stand", x.stand(0), Check.STATE);
        check.due("stand, BAD too", x.stand(9), Check.STATE);
    }

    private static void making() {
        LaundryLoads x = Check.told("l1;w9,5;b9,9;");
        check.due("row 0 items", x.row(0, 0, 0), 0);
        check.due("row 40 items", x.row(7, 2, 40), 40);
        check.due("count of rows", x.count(0), 2);
        check.due("row 41 items", x.row(1, 0, 41), Check.BAD);
        check.due("row 8", x.row(8, 0, 1), Check.BAD);
        check.due("row -1", x.row(-1, 0, 1), Check.BAD);
        check.due("lane 3", x.row(0, 3, 1), Check.BAD);
        check.due("lane -1", x.row(0, -1, 1), Check.BAD);
        check.due("BAD ahead of SIZE", x.row(8, 0, -1), Check.BAD);
        check.due("fewer than none", x.row(1, 1, -1), Check.SIZE);
        check.due("least int", x.row(1, 1, Integer.MIN_VALUE), Check.SIZE);
        check.due("nothing made", x.count(0), 2);
        x.row(2, 2, 2);
        x.set(2, 1, 77);
        check.due("found: as it was", x.row(2, 2, -3), Check.SIZE);
        check.due("as it was", stands(x, 2, 1, 77) ? 1 : 0, 1);
        check.due("anew", x.row(2, 2, 3), 3);
        check.due("count stays", x.count(0), 3);
        check.due("items are 0 again", stands(x, 2, 1, 0) ? 1 : 0, 1);
        x.set(2, 0, 7);
        x.drop(2);
        x.row(2, 2, 1);
        check.due("and behind a drop", stands(x, 2, 0, 0) ? 1 : 0, 1);
    }

    private static void setting() {
        LaundryLoads x = new LaundryLoads();
        check.due("missing", x.set(0, 0, 1), Check.NULL);
        check.due("missing, whatever the place", x.set(0, -1, 1), Check.NULL);
        x.row(0, 0, 2);
        x.row(1, 1, 2);
        x.row(2, 2, 2);
        check.due("byte", x.set(0, 0, 127), 127);
        check.due("byte 128", x.set(0, 0, 128), -128);
        check.due("byte 256", x.set(0, 0, 256), 0);
        check.due("byte -129", x.set(0, 1, -129), 127);
        check.due("short", x.set(1, 0, 32768), -32768);
        check.due("short 65537", x.set(1, 1, 65537), 1);
        check.due("int", x.set(2, 0, Integer.MIN_VALUE), Integer.MIN_VALUE);
        check.due("place 2 of 2", x.set(2, 2, 0), Check.PLACE);
        check.due("place -1", x.set(2, -1, 0), Check.PLACE);
        check.due("greatest place", x.set(2, Integer.MAX_VALUE, 0), Check.PLACE);
        check.due("row 8", x.set(8, 0, 0), Check.BAD);
        check.due("row -1", x.set(-1, 0, 0), Check.BAD);
    }

    /** What stands in a row is seen by sizes(), to which a row is told. */
    private static boolean stands(LaundryLoads x, int row, int i, int value) {
        x.row(7, 2, 1);
        return x.copy(row, i, 7, 0, 1) == 1 && x.sizes(0, 7, 0, 1) == (value == 0 ? 1022 : 0);
    }

    private static void copying() {
        LaundryLoads x = Check.told("l1;w9,5;b9,9;");
        check.due("missing", x.copy(0, 0, 1, 0, 0), Check.NULL);
        x.row(0, 2, 4);
        check.due("one is missing", x.copy(0, 0, 1, 0, 0), Check.NULL);
        check.due("the other is missing", x.copy(1, 0, 0, 0, 0), Check.NULL);
        x.row(1, 1, 3);
        check.due("two lanes", x.copy(0, 0, 1, 0, 1), Check.STORE);
        check.due("two lanes, ahead of PLACE", x.copy(0, -1, 1, 0, 9), Check.STORE);
        check.due("BAD ahead of NULL", x.copy(8, 0, 2, 0, 0), Check.BAD);
        check.due("BAD b", x.copy(0, 0, -1, 0, 0), Check.BAD);
        x.row(2, 2, 3);
        check.due("all", x.copy(0, 1, 2, 0, 3), 3);
        check.due("none at the end", x.copy(0, 4, 2, 3, 0), 0);
        check.due("beyond a", x.copy(0, 2, 2, 0, 3), Check.PLACE);
        check.due("beyond b", x.copy(0, 0, 2, 1, 3), Check.PLACE);
        check.due("n below 0", x.copy(0, 0, 2, 0, -1), Check.PLACE);
        check.due("i below 0", x.copy(0, -1, 2, 0, 1), Check.PLACE);
        check.due("j below 0", x.copy(0, 0, 2, -1, 1), Check.PLACE);
        check.due("greatest i", x.copy(0, Integer.MAX_VALUE, 2, 0, 1), Check.PLACE);
        check.due("greatest n", x.copy(0, 1, 2, 1, Integer.MAX_VALUE), Check.PLACE);
        check.due("none beyond the end", x.copy(0, 5, 2, 0, 0), Check.PLACE);
        // 0 7 0 0 to one place on, and back: as they were ahead, though they lie over one another
        x.set(0, 1, 7);
        x.copy(0, 0, 0, 1, 3);
        check.due("0 0 7 0", stands(x, 0, 1, 0) && stands(x, 0, 2, 7) && stands(x, 0, 3, 0) ? 1 : 0, 1);
        x.copy(0, 1, 0, 0, 3);
        check.due("0 7 0 0", stands(x, 0, 0, 0) && stands(x, 0, 1, 7) && stands(x, 0, 2, 0) ? 1 : 0, 1);
    }

    private static void dropping() {
        LaundryLoads x = new LaundryLoads();
        check.due("missing", x.drop(3), Check.NULL);
        check.due("row 8", x.drop(8), Check.BAD);
        check.due("row -1", x.drop(-1), Check.BAD);
        x.row(3, 1, 12);
        check.due("items", x.drop(3), 12);
        check.due("count", x.count(0), 0);
        check.due("missing again", x.drop(3), Check.NULL);
        check.due("set in it", x.set(3, 0, 0), Check.NULL);
    }

    private static void statusKeepsTheLatest() {
        LaundryLoads x = Check.told("l1;w9,5;d9,0;b9,9;b2,9;");
        x.drop(0);
        check.due("NULL", x.status(), 1);
        x.row(9, 0, 0);
        check.due("BAD changes nothing", x.status(), 1);
        x.count(0);
        x.ticks(1);
        check.due("no call with a row", x.status(), 1);
        check.due("STATE", x.sizes(0, 0, 0, 1), Check.STATE);
        check.due("STATE changes nothing", x.status(), 1);
        x.row(0, 0, 3);
        check.due("none", x.status(), 0);
        x.set(0, 3, 0);
        check.due("PLACE", x.status(), 2);
        x.as(0, 4);
        check.due("KIND", x.status(), 3);
        x.as(0, 0);
        check.due("none by as", x.status(), 0);
        x.row(0, 0, -1);
        check.due("SIZE", x.status(), 4);
        x.row(1, 1, 1);
        x.copy(0, 0, 1, 0, 1);
        check.due("STORE", x.status(), 5);
        x.who(0, 0, 0, 0, 3);
        check.due("none by who", x.status(), 0);
        x.who(0, 0, 0, 1, 3);
        check.due("PLACE by who", x.status(), 2);
        x.sizes(1, 0, 0, 3);
        check.due("none by sizes", x.status(), 0);
        x.sizes(1, 5, 0, 3);
        check.due("NULL by sizes", x.status(), 1);
        x.copy(0, 0, 0, 0, 1);
        check.due("none by copy", x.status(), 0);
        x.set(0, 9, 9);
        x.drop(1);
        check.due("none by drop", x.status(), 0);
        check.due("as BAD", x.as(0, 6), Check.BAD);
        check.due("and still none", x.status(), 0);
    }
}
