/** Promises 6 to 8: the tape, what it tells, and its faults. */
public final class TextTest {
    private static final Check check = new Check();

    public static void main(String[] args) {
        feeding();
        reading();
        faults();
        faultsChangeNothing();
        check.end();
    }

    private static void feeding() {
        LaundryLoads x = new LaundryLoads();
        check.due("-1", x.feed(-1), Check.BAD);
        check.due("256", x.feed(256), Check.BAD);
        for (int i = 1; i <= 110; i++) {
            check.due("byte " + i, x.feed(i * 2), i);
        }
        check.due("FULL", x.feed(0), Check.FULL);
        check.due("BAD ahead of FULL", x.feed(256), Check.BAD);
        check.due("bytes", x.count(8), 110);
        x.launderette();
        check.due("bytes then", x.count(8), 0);
        check.due("one again", x.feed(255), 1);
    }

    private static void reading() {
        LaundryLoads x = new LaundryLoads();
        check.due("five", Check.tell(x, "l4;w1,0;q9,5;g3,1;d4,2;s05,03;b1,0;b9,60;"), 5);
        check.due("no fault yet", x.fault(), 0);
        check.dues("kinds", x::kind, 1, 2, 3, 4, 5, Check.BAD);
        check.dues("rooms", m -> x.machine(m, 0), 1, 9, 3, 4, 5, Check.BAD);
        check.dues("slownesses", m -> x.machine(m, 1), 0, 5, 1, 2, 3);
        check.dues("open", m -> x.machine(m, 2), 1, 1, 1, 1, 1);
        check.dues("empty", m -> x.machine(m, 3), Check.NONE, Check.NONE, Check.NONE, Check.NONE, Check.NONE);
        check.dues("sizes", l -> x.load(l, 0), 1, 9, Check.BAD);
        check.dues("dues", l -> x.load(l, 1), 0, 60);
        check.due("power", x.stand(0), 4);
        check.due("dirty", x.stand(1), 3);
        x.ticks(9);
        check.due("acts", x.count(7), 9);
        check.due("another one", Check.tell(x, "l1;d1,0;b1,0;"), 1);
        check.dues("counts", x::count, 0, 1, 1, 0, 0, 0, 0, 0, 0);
        check.due("open", x.stand(4), 1);
        check.due("most of all", Check.tell(x, "l5;w1,0;w1,0;w1,0;w1,0;w1,0;b1,0;b1,0;b1,0;b1,0;b1,0;b1,0;"), 5);
    }

    private static void wrong(String text, int fault, int place) {
        LaundryLoads x = new LaundryLoads();
        check.due("'" + text + "'", Check.tell(x, text), -1000100 - place);
        check.due("fault of '" + text + "'", x.fault(), fault);
        check.due("none after '" + text + "'", x.count(1), 0);
    }

    private static void faults() {
        wrong("", 1, 0);
        wrong("l", 1, 1);
        wrong("w1,0;", 1, 0);
        wrong(" l1;w1,0;b1,0;", 1, 0);
        wrong("L1;w1,0;b1,0;", 1, 0);
        wrong("l0;w1,0;b1,0;", 2, 1);
        wrong("l6;w1,0;b1,0;", 2, 1);
        wrong("l06;w1,0;b1,0;", 2, 1);
        wrong("l001;w1,0;b1,0;", 1, 1);
        wrong("l11111111111111111111111;", 1, 1);
        wrong("l999;", 1, 1);
        wrong("l1,w1,0;", 1, 2);
        wrong("l;", 1, 1);
        wrong("ll", 1, 1);
        wrong("l1;;", 1, 3);
        wrong("l1;b1,0;", 1, 3);
        wrong("l1;5", 1, 3);
        wrong("l1;w0,0;b1,0;", 2, 4);
        wrong("l1;w10,0;b1,0;", 2, 4);
        wrong("l1;w1;", 1, 5);
        wrong("l1;w1,6;b1,0;", 2, 6);
        wrong("l1;w1,;b1,0;", 1, 6);
        wrong("l1;w1,0,b1,0;", 1, 7);
        wrong("l1;w1,0;", 1, 8);
        wrong("l1;w1,0;l", 1, 8);
        wrong("l1;w1,0;b0,0;", 2, 9);
        wrong("l1;w1,0;b10,0;", 2, 9);
        wrong("l1;w1,0;b1;", 1, 10);
        wrong("l1;w1,0;b1,61;", 2, 11);
        wrong("l1;w1,0;b1,600;", 1, 11);
        wrong("l1;w1,0;b1,60", 1, 13);
        wrong("l1;w1,0;b1,60;w1,0;", 1, 14);
        wrong("l1;w1,0;b1,60;;", 1, 14);
        wrong("l1;w1,0;b1,60;\u00ff", 1, 14);
        wrong("l1;w1,0;b1,60;0", 1, 14);
        String five = "l1;w1,0;w1,0;w1,0;w1,0;w1,0;";
        wrong(five + "w1,0;b1,0;", 3, 28);
        wrong(five + "s", 3, 28);
        wrong(five + "x", 1, 28);
        wrong("l1;w1,0;b1,0;b1,0;b1,0;b1,0;b1,0;b1,0;b", 3, 38);
        wrong("l1;w1,0;b1,0;b1,0;b1,0;b1,0;b1,0;b1,0;w", 1, 38);
    }

    private static void faultsChangeNothing() {
        LaundryLoads x = Check.told("l2;w5,0;d5,0;b1,5;");
        x.ticks(1);
        check.due("a fault", Check.tell(x, "l3;w5,0;b1,61;"), -1000111);
        check.due("machines", x.count(1), 2);
        check.due("tick", x.count(3), 1);
        check.due("power", x.stand(0), 2);
        check.due("acts", x.count(7), 1);
        check.due("number", x.fault(), 2);
        Check.tell(x, "l3;w5,0;b1,6;");
        check.due("the latest fault is kept", x.fault(), 2);
        Check.tell(x, "l");
        check.due("the latest of two", x.fault(), 1);
    }
}
