/** Promises 19 to 35: all that is foretold, and images. */
public final class ForetoldTest {
    private static final Check check = new Check();
    private static final String FIVE = "l2;w5,1;q9,0;g4,2;d9,1;s3,0;b4,6;b2,3;b9,50;b3,2;";
    private static final String ALL_FIVE = "l5;g9,0;q9,1;s9,1;d9,0;q9,0;b6,0;b5,0;b8,0;b8,0;b6,0;";
    private static final String CHAIN = "l5;w9,0;w9,0;d9,0;b2,0;";

    public static void main(String[] args) {
        aheadInsideAll();
        whenAndOver();
        orders();
        needs();
        keeping();
        keepingMany();
        filling();
        sharing();
        turns();
        whoAndSizes();
        breaking();
        drawing();
        images();
        check.end();
    }

    private static void aheadInsideAll() {
        LaundryLoads x = Check.told(FIVE);
        check.dues("load 0", n -> x.ahead(0, n, 0), 0, 10, 10, 10, 10, 10, 13, 13, 13, 13, 2, 2);
        check.dues("load 2", n -> x.ahead(2, n, 0), 0, 0, 11, 11, 11, 11, 1, 1, 1, 1, 1, 1, 1, 13);
        check.dues("late 0", n -> x.ahead(0, n, 1), 0, 0, 0, 0, 0, 0, 0, 1, 2, 3, 3, 3);
        check.due("ahead 60", x.ahead(2, 60, 0), 2);
        check.dues("in 1", n -> x.inside(1, n, 0), Check.NONE, 1, 2, 2, 2, 2, Check.NONE);
        check.dues("left 1", n -> x.inside(1, n, 1), 0, 1, 4, 3, 2, 1, 0);
        check.dues("done 1", n -> x.inside(1, n, 2), 0, 0, 1, 1, 1, 1, 2);
        check.due("done 3", x.inside(3, 60, 2), 3);
        check.due("all 10", x.all(10, 0), 1);
        check.due("all 11", x.all(11, 0), 9);
        check.due("all 19", x.all(19, 0), 15);
        check.due("late 60", x.all(60, 1), 20);
        check.due("late 4", x.all(4, 1), 3);
        check.due("nothing changed", x.count(3), 0);
        check.due("n 61", x.ahead(0, 61, 0), Check.BAD);
        check.due("n -1", x.ahead(0, -1, 0), Check.BAD);
        check.due("what 2", x.ahead(0, 1, 2), Check.BAD);
        check.due("load 4", x.ahead(4, 1, 0), Check.BAD);
        check.due("machine 5", x.inside(5, 1, 0), Check.BAD);
        check.due("n 61", x.inside(0, 61, 0), Check.BAD);
        check.due("what 3", x.inside(0, 1, 3), Check.BAD);
        check.due("all 61", x.all(61, 0), Check.BAD);
        check.due("all what", x.all(0, 2), Check.BAD);
        check.due("all of none", new LaundryLoads().all(61, 0), Check.STATE);
    }

    private static void whenAndOver() {
        LaundryLoads x = Check.told(FIVE);
        check.dues("washed", l -> x.when(l, 1), 6, 2, 6, 10, Check.BAD);
        check.dues("dry", l -> x.when(l, 2), 10, 13, 19, 11);
        check.due("over", x.over(), 19);
        check.due("how 0", x.when(0, 0), Check.BAD);
        check.due("how 3", x.when(0, 3), Check.BAD);
        x.ticks(19);
        check.due("washed already", x.when(2, 1), 0);
        check.due("dry already", x.when(2, 2), 0);
        check.due("over already", x.over(), 0);
        LaundryLoads never = Check.told("l1;w9,0;d1,0;b2,0;");
        check.due("washed", never.when(0, 1), 3);
        check.due("never dry", never.when(0, 2), Check.NONE);
        check.due("never over", never.over(), Check.NONE);
        // washers that last 14, one at a time: the fourth would come out at tick 56, and be dry at 61
        LaundryLoads long61 = Check.told("l1;w9,5;s9,0;b9,0;b9,0;b9,0;b9,0;");
        check.due("washed behind 57", long61.when(3, 1), 57);
        check.due("first dry behind 61", long61.when(0, 2), Check.NONE);
        check.due("over of none", new LaundryLoads().over(), Check.STATE);
        // the last one is washed at tick 54, and dry at tick 59
        LaundryLoads just60 = Check.told("l5;d9,0;d9,1;w9,1;s9,0;s9,0;b5,0;b9,0;b9,0;b9,0;b8,0;b8,0;");
        check.due("dry behind 60", just60.when(5, 2), 60);
        check.due("over behind 60", just60.over(), 60);
    }

    private static void orders() {
        LaundryLoads x = Check.told("l1;w9,0;d9,0;b9,0;b1,0;");
        check.due("late by numbers", x.all(50, 1), 31);
        check.dues("order for 50", k -> x.order(50, k - 1), 27, 1, 0, Check.NONE);
        check.dues("order for 5", k -> x.order(5, k - 1), 10, 0, 1, Check.NONE);
        check.dues("again for 50", k -> x.order(50, k - 1), 27, 1, 0);
        x.due(0, 99);
        check.due("another due", x.order(50, -1), 11);
        x.due(1, 99);
        check.dues("none is late", k -> x.order(50, k - 1), 0, 0, 1);
        x.undo();
        x.undo();
        check.due("undone", x.order(50, -1), 27);
        check.due("n 0", x.order(0, 0), Check.BAD);
        check.due("n 51", x.order(51, 0), Check.BAD);
        check.due("k -2", x.order(1, -2), Check.BAD);
        check.due("great k", x.order(1, Integer.MAX_VALUE), Check.NONE);
        check.due("of none", new LaundryLoads().order(0, -2), Check.STATE);
        // none is late either way, but only the short one can be dry in time
        LaundryLoads most = Check.told("l1;q9,0;s9,0;b9,60;b1,60;");
        check.dues("most dry", k -> most.order(9, k - 1), 0, 1, 0);
    }

    private static void needs() {
        LaundryLoads x = Check.told("l1;w9,0;d9,0;b9,0;b1,0;");
        check.due("17", x.need(17), 1);
        check.due("16", x.need(16), 2);
        check.due("15", x.need(15), Check.NONE);
        check.due("power as it was", x.stand(0), 1);
        check.due("0", x.need(0), Check.BAD);
        check.due("51", x.need(51), Check.BAD);
        check.due("of none", new LaundryLoads().need(0), Check.STATE);
        x.ticks(17);
        check.due("all dry", x.need(1), 1);
        LaundryLoads five = Check.told(ALL_FIVE);
        check.due("over", five.over(), 15);
        check.due("five at once", five.need(15), 5);
        check.due("too few ticks", five.need(14), Check.NONE);
    }

    private static void keeping() {
        LaundryLoads x = Check.told("l5;w9,0;q9,0;d9,0;s9,0;b4,0;");
        check.due("which for 8", x.open(8, 1), 5);
        check.due("which for 7", x.open(7, 1), 6);
        check.due("which for 6", x.open(6, 1), 6);
        check.due("which for 5", x.open(5, 1), 10);
        check.due("how many for 5", x.open(5, 0), 2);
        check.due("none for 4", x.open(4, 0), Check.NONE);
        check.due("none for 4", x.open(4, 1), Check.NONE);
        x.shut(1);
        check.due("shut ones may be open", x.open(6, 1), 6);
        check.due("as it was", x.stand(4), 13);
        x.ticks(1);
        check.due("the one with a load goes on", x.open(50, 1), 4);
        check.due("one", x.open(50, 0), 1);
        x.ticks(9);
        check.due("all dry", x.open(1, 0), 0);
        check.due("all dry", x.open(1, 1), 0);
        check.due("n 0", x.open(0, 0), Check.BAD);
        check.due("n 51", x.open(51, 0), Check.BAD);
        check.due("what 2", x.open(1, 2), Check.BAD);
        check.due("of none", new LaundryLoads().open(0, 2), Check.STATE);
    }

    private static void keepingMany() {
        LaundryLoads five = Check.told(ALL_FIVE);
        check.dues("all five", w -> five.open(15, w), 5, 31);
        LaundryLoads four = Check.told("l5;q9,1;s9,1;d9,1;s9,1;g9,0;b4,0;b5,0;b2,0;b4,0;");
        check.dues("four of five", w -> four.open(9, w), 4, 27);
    }

    private static void filling() {
        LaundryLoads x = Check.told("l1;w5,0;w9,0;w1,0;d8,0;b5,0;b2,0;b3,0;b4,0;b1,0;");
        check.dues("5", w -> x.fills(0, w), 3, 0, 31, Check.BAD);
        check.dues("9", w -> x.fills(1, w), 3, 0, 31);
        check.dues("1", w -> x.fills(2, w), 1, 16, 16);
        check.due("machine 4", x.fills(4, 0), Check.BAD);
        check.due("what -1", x.fills(0, -1), Check.BAD);
        LaundryLoads dry = Check.told("l1;q9,0;s2,0;q3,0;b2,0;b3,0;");
        check.dues("no set of 9", w -> dry.fills(0, w), 0, 0, 0);
        check.dues("2", w -> dry.fills(1, w), 1, 1, 1);
        dry.ticks(1);
        check.dues("what is in a machine, too", w -> dry.fills(1, w), 1, 1, 1);
        dry.ticks(20);
        check.due("dry", dry.stand(3), 1);
        check.dues("no dry ones", w -> dry.fills(1, w), 0, 0, 0);
        check.dues("3", w -> dry.fills(2, w), 1, 2, 2);
    }

    private static void sharing() {
        LaundryLoads x = Check.told(FIVE);
        check.due("none has done any", x.share(0, 10), 0);
        x.ticks(19);
        check.dues("10", m -> x.share(m, 10), 3, 3, 0, 3, 1, Check.BAD);
        check.dues("999", m -> x.share(m, 999), 250, 250, 0, 375, 124);
        check.dues("3", m -> x.share(m, 3), 1, 1, 0, 1, 0);
        check.dues("1", m -> x.share(m, 1), 1, 0, 0, 0, 0);
        check.dues("0", m -> x.share(m, 0), 0, 0, 0, 0, 0);
        check.due("1000", x.share(0, 1000), Check.BAD);
        check.due("-1", x.share(0, -1), Check.BAD);
        check.due("machine -1", x.share(-1, 1), Check.BAD);
    }

    private static void turns() {
        LaundryLoads x = Check.told(CHAIN);
        check.dues("for 20", n -> x.byTurns(n, 20), 1, 0, 1, 0, 1, Check.BAD);
        check.due("for 4", x.byTurns(0, 4), 0);
        check.due("for 5", x.byTurns(0, 5), 1);
        check.due("as it was", x.stand(4), 7);
        x.shut(2);
        check.dues("shut at first", n -> x.byTurns(n, 20), 0, 0, 1, 0, 1);
        x.shut(0);
        check.due("two cannot be opened in one", x.byTurns(3, 20), 0);
        check.due("-1", x.byTurns(-1, 1), Check.BAD);
        check.due("m 0", x.byTurns(0, 0), Check.BAD);
        check.due("m 21", x.byTurns(0, 21), Check.BAD);
        check.due("of none", new LaundryLoads().byTurns(5, 0), Check.STATE);
    }

    private static void whoAndSizes() {
        LaundryLoads x = Check.told("l1;q9,0;d9,0;b4,0;");
        Check.fill(x, 0, 0, 0, 0, 0, 0, 10, 10, 10, 10, 10, 10, 10);
        check.dues("machine 0", w -> x.who(0, w, 0, 0, 6), 4, 1008, 3, Check.BAD);
        check.dues("machine 1", w -> x.who(1, w, 0, 0, 12), 16, 1008, 1);
        check.due("sizes", x.sizes(0, 0, 0, 12), 48);
        check.due("one tick tells nothing", x.sizes(0, 0, 0, 1), 1022);
        check.due("n 0", x.who(0, 0, 0, 0, 0), Check.BAD);
        check.due("n 13", x.who(0, 0, 0, 0, 13), Check.BAD);
        check.due("row 8", x.who(0, 0, 8, 0, 1), Check.BAD);
        check.due("machine 2", x.who(2, 0, 0, 0, 1), Check.BAD);
        check.due("which -1", x.who(0, -1, 0, 0, 1), Check.BAD);
        check.due("missing", x.who(0, 0, 1, 99, 1), Check.NULL);
        check.due("beyond", x.who(0, 0, 0, 1, 12), Check.PLACE);
        check.due("below", x.who(0, 0, 0, -1, 1), Check.PLACE);
        check.due("greatest", x.who(0, 0, 0, Integer.MAX_VALUE, 12), Check.PLACE);
        check.due("sizes n 0", x.sizes(0, 0, 0, 0), Check.BAD);
        check.due("sizes n 13", x.sizes(0, 0, 0, 13), Check.BAD);
        check.due("sizes load 1", x.sizes(1, 0, 0, 1), Check.BAD);
        check.due("sizes row -1", x.sizes(0, -1, 0, 1), Check.BAD);
        check.due("sizes missing", x.sizes(0, 1, 0, 1), Check.NULL);
        check.due("sizes beyond", x.sizes(0, 0, 12, 1), Check.PLACE);
        x.ticks(1);
        check.dues("a load in it", w -> x.who(0, w, 0, 1, 5), 14, 1022, 63);
        check.due("dry, out of a dryer", x.who(0, 0, 0, 4, 2), 48);
        check.due("in a machine", x.sizes(0, 0, 0, 1), Check.STATE);
        check.due("STATE ahead of NULL", x.sizes(0, 1, 0, 1), Check.STATE);
        check.due("BAD ahead of STATE", x.sizes(0, 0, 0, 13), Check.BAD);
        check.due("kind as it was", x.kind(0), 2);
        LaundryLoads wet = Check.told("l1;q9,0;d2,0;b4,0;");
        Check.fill(wet, 0, 0, 0, 1);
        check.due("waits wet", wet.who(1, 1, 0, 0, 3), 14);
    }

    private static void breaksTo(String what, LaundryLoads x, int n, int p, long above, long below) {
        check.due(what + ", above", x.breaks(0, n, p, 0), above);
        check.due(what + ", below", x.breaks(0, n, p, 1), below);
    }

    private static void breaking() {
        LaundryLoads x = Check.told(CHAIN);
        breaksTo("by 5", x, 60, 5, 3, 8);
        breaksTo("by 3", x, 60, 3, 637, 1000);
        breaksTo("by 0", x, 5, 0, 1, 1);
        breaksTo("by 10", x, 60, 10, 0, 1);
        breaksTo("too early", x, 4, 0, 0, 1);
        x.shut(1);
        breaksTo("one is shut", x, 60, 3, 49, 100);
        x.ticks(1);
        breaksTo("a load in it goes on", x, 60, 3, 7, 10);
        x.ticks(9);
        breaksTo("dry already", x, 0, 10, 1, 1);
        check.due("p 11", x.breaks(0, 0, 11, 0), Check.BAD);
        check.due("p -1", x.breaks(0, 0, -1, 0), Check.BAD);
        check.due("n 61", x.breaks(0, 61, 1, 0), Check.BAD);
        check.due("n -1", x.breaks(0, -1, 1, 0), Check.BAD);
        check.due("load 1", x.breaks(1, 0, 1, 0), Check.BAD);
        check.due("what 2", x.breaks(0, 0, 1, 2), Check.BAD);
    }

    private static void drawing() {
        LaundryLoads x = Check.told("l2;q9,0;s9,0;b1,9;");
        check.dues("came out", n -> x.drawn(n, 1, 0), 0, 0, 0, 1, 1, 1, 2, 2, 2, 2, 2);
        check.due("late", x.drawn(10, 1, 1), 0);
        check.due("as it was", x.count(3), 0);
        check.due("seed 0", x.drawn(1, 0, 0), Check.BAD);
        check.due("seed 1000000", x.drawn(1, 1000000, 0), Check.BAD);
        check.due("greatest seed", x.drawn(0, 999999, 0), 0);
        check.due("n 61", x.drawn(61, 1, 0), Check.BAD);
        check.due("n -1", x.drawn(-1, 1, 0), Check.BAD);
        check.due("what 2", x.drawn(1, 1, 2), Check.BAD);
        check.due("of none", new LaundryLoads().drawn(61, 0, 2), Check.STATE);
        // 3 times 16807 by 3 leaves 0: the machine that is the rest of 50421 by 2 is shut
        LaundryLoads one = Check.told("l2;q9,0;w9,0;b1,9;");
        check.due("late by 51", one.drawn(60, 3, 1), 51);
    }

    private static void images() {
        LaundryLoads x = new LaundryLoads();
        check.due("no launderette", x.image(0), Check.STATE);
        check.due("BAD ahead of STATE", x.image(2), Check.BAD);
        check.due("none kept", x.restore(1), Check.STATE);
        check.due("k -1", x.restore(-1), Check.BAD);
        Check.tell(x, FIVE);
        x.ticks(3);
        x.shut(2);
        check.due("kept", x.image(1), 1);
        check.due("acts go on", x.count(7), 4);
        Check.tell(x, CHAIN);
        check.due("the other is not kept", x.restore(0), Check.STATE);
        check.due("kept, too", x.image(0), 1);
        x.power(1);
        check.due("restored", x.restore(1), 1);
        check.dues("counts", x::count, 0, 5, 4, 3, 0, 1, 1, 0, 0);
        check.due("open ones", x.stand(4), 27);
        check.due("nothing to undo", x.undo(), Check.STATE);
        x.ticks(16);
        check.due("restored again", x.restore(1), 1);
        check.due("tick", x.count(3), 3);
        check.due("the other", x.restore(0), 1);
        check.due("machines", x.count(1), 3);
        check.due("power", x.stand(0), 5);
        check.due("order of the other", x.order(9, -1), 4);
        x.restore(1);
        // load 1 dries ahead of load 0: late by 5, 6 and, load 3, 8
        check.due("order of this one", x.order(9, -1), 19);
        Check.tell(x, CHAIN);
        check.due("order of what is told then", x.order(9, -1), 4);
    }
}
