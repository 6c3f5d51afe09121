import java.util.Random;

/** Runs of calls, drawn by fixed seeds, on the class and on the plain model side by side. */
public final class ModelTest {
    private static final Check check = new Check();
    private final Random random;
    private final int run;
    private final LaundryLoads x = new LaundryLoads();
    private int calls;
    private final PlainModel y = new PlainModel();

    private ModelTest(int run) {
        this.run = run;
        this.random = new Random(run);
    }

    public static void main(String[] args) {
        for (int run = 0; run < 500; run++) {
            new ModelTest(run).go();
        }
        check.end();
    }

    private int draw(int least, int most) {
        return least + random.nextInt(most - least + 1);
    }

    /** Now and then one beyond the edges. */
    private int near(int least, int most) {
        return random.nextInt(12) == 0 ? (random.nextBoolean() ? least - 1 : most + 1) : draw(least, most);
    }

    private void tell() {
        PlainModel.Shop shop = new PlainModel.Shop();
        shop.power = draw(1, 5);
        StringBuilder text = new StringBuilder("l" + shop.power + ";");
        int machines = draw(1, 5);
        for (int m = 0; m < machines; m++) {
            PlainModel.Machine one = new PlainModel.Machine();
            one.sort = "wqgds".charAt(draw(0, 4));
            one.room = random.nextInt(3) == 0 ? draw(1, 9) : 9;
            one.slow = draw(0, 5);
            shop.machines.add(one);
            text.append(one.sort).append(one.room).append(',').append(one.slow).append(';');
        }
        int loads = draw(1, 6);
        for (int l = 0; l < loads; l++) {
            PlainModel.Load one = new PlainModel.Load();
            one.number = l;
            one.size = draw(1, 9);
            one.due = draw(0, 60);
            shop.loads.add(one);
            text.append('b').append(one.size).append(',').append(one.due).append(';');
        }
        calls += text.length();
        due("tell " + text, Check.tell(x, text.toString()), machines);
        y.told(shop);
    }

    private void due(String call, long got, long want) {
        calls++;
        check.due("run " + run + ": " + call, got, want);
    }

    private void go() {
        tell();
        // an object is used for 512 calls, and no step makes more than 100
        while (calls < Run.MOST_CALLS - 100) {
            int c = random.nextInt(32);
            if (c == 31 && random.nextInt(8) == 0) {
                tell();
            } else if (c < 9) {
                act(c);
            } else if (c < 14) {
                look(c - 9);
            } else {
                foretell(c - 14);
            }
        }
    }

    private void act(int c) {
        int a = near(0, 5);
        int b = near(1, 9);
        switch (c) {
            case 0: case 1: case 2: due("ticks " + b, x.ticks(b), y.ticks(b)); break;
            case 3: due("shut " + a, x.shut(a), y.shut(a)); break;
            case 4: due("power " + b, x.power(b), y.power(b)); break;
            case 5: due("due " + a, x.due(a, b * 11), y.due(a, b * 11)); break;
            case 6: due("again " + a, x.again(a, b), y.again(a, b)); break;
            case 7: due("undo", x.undo(), y.undo()); break;
            default:
                int k = random.nextInt(2);
                if (random.nextBoolean()) {
                    due("image " + k, x.image(k), y.image(k));
                } else {
                    due("restore " + k, x.restore(k), y.restore(k));
                }
        }
    }

    private void look(int c) {
        for (int a = 0; a < 6; a++) {
            for (int what = 0; what < 8; what++) {
                switch (c) {
                    case 0: due("machine " + a + " " + what, x.machine(a, what), y.machine(a, what)); break;
                    case 1: due("load " + a + " " + what, x.load(a, what), y.load(a, what)); break;
                    case 2: due("lasts " + a + " " + what, x.lasts(a, what), y.lasts(a, what)); break;
                    case 3: due("count " + what, x.count(what), y.count(what)); break;
                    default: due("stand " + what, x.stand(what), y.stand(what)); break;
                }
            }
        }
    }

    private void foretell(int c) {
        int a = near(0, 5);
        int n = near(0, 60);
        int what = near(0, 1);
        String with = " " + a + " " + n + " " + what;
        switch (c) {
            case 0: due("ahead" + with, x.ahead(a, n, what), y.ahead(a, n, what)); break;
            case 1: due("inside" + with, x.inside(a, n, what), y.inside(a, n, what)); break;
            case 2: due("all" + with, x.all(n, what), y.all(n, what)); break;
            case 3: due("when" + with, x.when(a, what + 1), y.when(a, what + 1)); break;
            case 4: due("over", x.over(), y.over()); break;
            case 5: compareOrders(near(1, 50)); break;
            case 6: due("need" + with, x.need(n), y.need(n)); break;
            case 7: due("open" + with, x.open(n, what), y.open(n, what)); break;
            case 8: due("fills" + with, x.fills(a, what + 1), y.fills(a, what + 1)); break;
            case 9: due("share" + with, x.share(a, n * 16), y.share(a, n * 16)); break;
            case 10: compareTurns(near(0, 4), near(1, 20)); break;
            case 11: compareBreaks(a, n, near(0, 10)); break;
            case 12: case 13: compareDraws(n, near(1, 999999)); break;
            case 14: compareAsks(); break;
            default: compareTold(); break;
        }
    }

    private void compareOrders(int n) {
        if (random.nextInt(3) != 0) {
            return;
        }
        for (int k = -2; k <= y.shop.loads.size(); k++) {
            due("order " + n + " " + k, x.order(n, k), y.order(n, k));
        }
    }

    private void compareTurns(int n, int m) {
        due("byTurns " + n + " " + m, x.byTurns(n, m), y.byTurns(n, m));
    }

    private void compareBreaks(int l, int n, int p) {
        for (int what = 0; what < 3; what++) {
            due("breaks " + l + " " + n + " " + p + " " + what, x.breaks(l, n, p, what), y.breaks(l, n, p, what));
        }
    }

    private void compareDraws(int n, int seed) {
        for (int what = 0; what < 3; what++) {
            due("drawn " + n + " " + seed + " " + what, x.drawn(n, seed, what), y.drawn(n, seed, what));
        }
    }

    private void compareAsks() {
        for (int m = 0; m < y.shop.machines.size(); m++) {
            for (int what = 0; what < 2; what++) {
                due("ask " + m + " " + what, x.ask(m, what), y.ask(m, what));
                for (int i = 0; i <= y.trace().size(); i++) {
                    due("trace " + i, x.trace(i), i < y.trace().size() ? y.trace().get(i) : Check.NONE);
                }
            }
        }
    }

    /** Tells what would be seen if one machine, or one load, were drawn anew. */
    private void compareTold() {
        PlainModel.Shop seen = y.shop.twin();
        int m = random.nextInt(seen.machines.size());
        int l = random.nextInt(seen.loads.size());
        switch (random.nextInt(4)) {
            case 0: seen.machines.get(m).sort = "wqgds".charAt(draw(0, 4)); break;
            case 1: seen.machines.get(m).room = draw(1, 9); break;
            case 2: seen.machines.get(m).slow = draw(0, 5); break;
            default: seen.loads.get(l).size = draw(1, 9); break;
        }
        int n = draw(1, 12);
        int[] row = new int[n];
        for (int i = 0; i < n; i++) {
            seen.tick();
            row[i] = seen.many("wet") + 10 * seen.many("dry");
        }
        Check.fill(x, 3, row);
        calls += n + 2;
        for (int which = 0; which < 3; which++) {
            due("who " + m + " " + which, x.who(m, which, 3, 0, n), y.who(m, which, row));
        }
        due("sizes " + l, x.sizes(l, 3, 0, n), y.sizes(l, row));
        x.drop(3);
    }
}
