/** Promises 9 to 18 and 40: acts, how all stands, and acts undone. */
public final class DoneTest {
    private static final Check check = new Check();
    private static final String FIVE = "l2;w5,1;q9,0;g4,2;d9,1;s3,0;b4,6;b2,3;b9,50;b3,2;";

    public static void main(String[] args) {
        lasting();
        tickByTick();
        shutWithALoadIn();
        powerThatIsAnother();
        duesAndLoadsAgain();
        wornGreedyOnes();
        undoing();
        tooManyTicks();
        refusals();
        check.end();
    }

    private static void lasting() {
        LaundryLoads x = Check.told(FIVE);
        check.dues("washer", l -> x.lasts(0, l), 5, 3, 10, 4, Check.BAD);
        check.dues("quick", l -> x.lasts(1, l), 2, 1, 4, 1);
        check.dues("greedy", l -> x.lasts(2, l), 6, 4, 11, 5);
        check.dues("dryer", l -> x.lasts(3, l), 4, 3, 6, 3);
        check.dues("spinner", l -> x.lasts(4, l), 2, 1, 4, 1);
        LaundryLoads least = Check.told("l1;q9,0;s9,0;d9,0;b1,0;");
        check.dues("1 at least", m -> least.lasts(m, 0), 1, 1, 1, Check.BAD);
    }

    private static void tickByTick() {
        LaundryLoads x = Check.told(FIVE);
        check.due("tick 1", x.ticks(1), 0);
        check.dues("how behind 1", l -> x.load(l, 2), 10, 11, 0, 0);
        check.dues("stand behind 1", x::stand, 2, 12, 0, 0, 31, 3, Check.BAD);
        check.due("tick 2", x.ticks(1), 0);
        check.dues("how behind 2", l -> x.load(l, 2), 10, 1, 11, 0);
        check.dues("machine 1 behind 2", w -> x.machine(1, w), 9, 0, 1, 2, 4, 1, 1, Check.BAD);
        check.due("ticks to 6", x.ticks(4), 0);
        check.dues("how behind 6", l -> x.load(l, 2), 13, 1, 1, 10);
        check.dues("stand behind 6", x::stand, 2, 0, 6, 0, 31, 9);
        check.due("ticks to 10", x.ticks(4), 1);
        check.dues("how behind 10", l -> x.load(l, 2), 2, 13, 1, 14);
        check.dues("load 0 behind 10", w -> x.load(0, w), 4, 6, 2, 9, 3, Check.BAD);
        check.dues("load 1 behind 10", w -> x.load(1, w), 2, 3, 13, Check.NONE, 7);
        check.dues("machine 4 behind 10", w -> x.machine(4, w), 3, 0, 1, 3, 1, 0, 0);
        check.due("ticks to 18", x.ticks(8), 11);
        check.due("ticks to 19", x.ticks(1), 15);
        check.dues("ends", l -> x.load(l, 3), 9, 12, 18, 10);
        check.dues("late", l -> x.load(l, 4), 3, 9, 0, 8);
        check.dues("done", m -> x.machine(m, 5), 2, 2, 0, 3, 1);
        check.dues("counts", x::count, 0, 5, 4, 19, 4, 8, 20, 19, 0);
        check.due("nothing more", x.ticks(24), 15);
        check.due("late as it was", x.count(6), 20);
    }

    private static void shutWithALoadIn() {
        LaundryLoads x = Check.told("l5;w9,0;d9,0;b2,0;b2,0;");
        x.ticks(1);
        check.due("shut", x.shut(0), 0);
        check.due("not open", x.machine(0, 2), 0);
        check.due("open ones", x.stand(4), 2);
        x.ticks(2);
        check.due("comes out", x.load(0, 2), 11);
        check.due("none goes in", x.load(1, 2), 0);
        check.due("done", x.machine(0, 5), 1);
        check.due("open again", x.shut(0), 1);
        x.ticks(1);
        check.due("goes in", x.load(1, 2), 10);
    }

    private static void powerThatIsAnother() {
        LaundryLoads x = Check.told("l3;w9,0;w9,0;w9,0;b1,0;b4,0;b5,0;b1,0;");
        x.ticks(1);
        check.due("busy", x.stand(5), 7);
        check.due("was", x.power(2), 3);
        check.due("is", x.stand(0), 2);
        x.ticks(1);
        check.due("others go on, none goes in", x.stand(5), 6);
        check.due("waits", x.load(3, 2), 0);
        check.due("was", x.power(5), 2);
        x.ticks(1);
        check.due("goes in", x.load(3, 2), 10);
        check.due("0", x.power(0), Check.BAD);
        check.due("6", x.power(6), Check.BAD);
    }

    private static void duesAndLoadsAgain() {
        LaundryLoads x = Check.told("l1;q9,0;s9,0;b1,0;b7,60;");
        check.due("not dry", x.again(0, 1), Check.STATE);
        check.due("BAD ahead of STATE", x.again(0, 0), Check.BAD);
        check.due("size 10", x.again(0, 10), Check.BAD);
        check.due("no such load", x.again(2, 1), Check.BAD);
        check.due("due was", x.due(1, 99), 60);
        check.due("due is", x.load(1, 1), 99);
        check.due("due 100", x.due(1, 100), Check.BAD);
        check.due("due -1", x.due(1, -1), Check.BAD);
        check.due("no such load", x.due(2, 0), Check.BAD);
        // q: 0 in at 0, out at 1, 1 in at 1, out at 4; s: 0 in at 4, dry at 5, 1 in at 5
        check.due("dry", x.ticks(6), 1);
        check.due("late by 5", x.load(0, 4), 5);
        check.due("due then", x.due(0, 3), 0);
        check.due("late by 2", x.load(0, 4), 2);
        check.due("again", x.again(0, 9), 1);
        check.dues("as new", w -> x.load(0, w), 9, 3, 0, Check.NONE, 3);
        check.due("dry ones", x.stand(3), 0);
    }

    private static void wornGreedyOnes() {
        LaundryLoads x = Check.told("l5;g9,0;s9,0;b1,0;");
        for (int round = 0; round < 7; round++) {
            check.due("done " + round, x.machine(0, 5), round);
            check.due("lasts " + round, x.lasts(0, 0), 1 + round / 3);
            x.ticks(6);
            x.again(0, 1);
        }
    }

    private static void undoing() {
        LaundryLoads x = Check.told("l2;q9,0;s9,0;b1,4;b2,4;");
        check.due("none", x.undo(), Check.STATE);
        x.ticks(1);
        x.shut(1);
        x.power(4);
        x.due(0, 50);
        check.due("acts", x.count(7), 4);
        check.due("due undone", x.undo(), 3);
        check.due("due", x.load(0, 1), 4);
        check.due("power undone", x.undo(), 2);
        check.due("power", x.stand(0), 2);
        check.due("shut undone", x.undo(), 1);
        check.due("open", x.stand(4), 3);
        check.due("tick undone", x.undo(), 0);
        check.due("tick", x.count(3), 0);
        check.due("load", x.load(0, 2), 0);
        check.due("machine", x.machine(0, 3), Check.NONE);
        check.due("none left", x.undo(), Check.STATE);
        check.due("all dry", x.ticks(5), 3);
        x.again(0, 7);
        check.due("again undone", x.undo(), 5);
        check.dues("as before", w -> x.load(0, w), 1, 4, 2, 2, 0);
        x.ticks(24);
        check.due("24 at most", x.count(7), 24);
        x.shut(0);
        for (int left = 23; left >= 0; left--) {
            check.due("undone", x.undo(), left);
        }
        check.due("the oldest is forgotten", x.undo(), Check.STATE);
        check.due("tick", x.count(3), 6);
        check.due("open", x.stand(4), 3);
        check.due("refused acts are none", x.shut(2) == Check.BAD && x.power(9) == Check.BAD ? x.count(7) : -1, 0);
    }

    private static void tooManyTicks() {
        LaundryLoads x = Check.told("l1;d9,0;b1,60;");
        for (int i = 0; i < 41; i++) {
            x.ticks(24);
        }
        check.due("beyond 999", x.ticks(16), Check.FULL);
        check.due("to 999", x.ticks(15), 0);
        check.due("tick", x.count(3), 999);
        check.due("no more", x.ticks(1), Check.FULL);
        check.due("BAD ahead of FULL", x.ticks(25), Check.BAD);
        check.due("late", x.count(6), 939);
        check.due("late beyond", x.ahead(0, 60, 1), 999);
    }

    private static void refusals() {
        LaundryLoads none = new LaundryLoads();
        check.due("STATE ahead of BAD", none.ticks(0), Check.STATE);
        check.due("STATE ahead of BAD", none.power(0), Check.STATE);
        check.due("no machine", none.shut(0), Check.BAD);
        LaundryLoads x = Check.told("l1;d9,0;b1,60;");
        check.due("ticks 0", x.ticks(0), Check.BAD);
        check.due("ticks -1", x.ticks(-1), Check.BAD);
        check.due("ticks of greatest int", x.ticks(Integer.MAX_VALUE), Check.BAD);
        check.due("shut 1", x.shut(1), Check.BAD);
        check.due("shut -1", x.shut(-1), Check.BAD);
        check.due("machine -1", x.machine(-1, 0), Check.BAD);
        check.due("machine what -1", x.machine(0, -1), Check.BAD);
        check.due("load -1", x.load(-1, 0), Check.BAD);
        check.due("load what -1", x.load(0, -1), Check.BAD);
        check.due("lasts -1", x.lasts(-1, 0), Check.BAD);
        check.due("lasts of load -1", x.lasts(0, -1), Check.BAD);
        check.due("stand -1", x.stand(-1), Check.BAD);
        check.due("no act", x.count(7), 0);
    }
}
