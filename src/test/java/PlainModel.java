import java.util.ArrayList;
import java.util.List;
import java.util.TreeSet;

/**
 * The document once more, written apart from the class and as slowly as its words:
 * every tick by itself, every order, every turn tried out.
 */
final class PlainModel {
    static final class Machine {
        char sort;
        int room, slow, left, done;
        boolean open = true;
        Load load;

        boolean washes() {
            return "wqg".indexOf(sort) >= 0;
        }

        int lasts(Load l) {
            if (sort == 'w') {
                return l.size + slow;
            }
            if (sort == 'q') {
                return Math.max((l.size + slow) / 2, 1);
            }
            if (sort == 'g') {
                return l.size + slow + done / 3;
            }
            int dryer = l.size / 2 + slow + 1;
            return sort == 'd' ? dryer : Math.max(dryer - 1, 1);
        }
    }

    static final class Load {
        int number, size, due, end;
        String how = "dirty";
    }

    static final class Shop {
        int power, tick;
        List<Machine> machines = new ArrayList<>();
        List<Load> loads = new ArrayList<>();
        List<Load> rank = loads;

        Shop twin() {
            Shop t = new Shop();
            t.power = power;
            t.tick = tick;
            for (Load l : loads) {
                Load c = new Load();
                c.number = l.number;
                c.size = l.size;
                c.due = l.due;
                c.end = l.end;
                c.how = l.how;
                t.loads.add(c);
            }
            for (Machine m : machines) {
                Machine c = new Machine();
                c.sort = m.sort;
                c.room = m.room;
                c.slow = m.slow;
                c.left = m.left;
                c.done = m.done;
                c.open = m.open;
                c.load = m.load == null ? null : t.loads.get(m.load.number);
                t.machines.add(c);
            }
            return t;
        }

        Shop ticked(int n) {
            for (int i = 0; i < n; i++) {
                tick();
            }
            return this;
        }

        void tick() {
            for (Machine m : machines) {
                if (m.load != null && --m.left == 0) {
                    m.load.how = m.washes() ? "wet" : "dry";
                    if (!m.washes()) {
                        m.load.end = tick;
                    }
                    m.load = null;
                    m.done = Math.min(999, m.done + 1);
                }
            }
            for (Machine m : machines) {
                long busy = machines.stream().filter(o -> o.load != null).count();
                if (m.load == null && m.open && busy < power) {
                    String wants = m.washes() ? "dirty" : "wet";
                    rank.stream().filter(l -> l.how.equals(wants) && l.size <= m.room).findFirst().ifPresent(l -> {
                        l.how = "in";
                        m.load = l;
                        m.left = m.lasts(l);
                    });
                }
            }
            tick++;
        }

        int code(Load l) {
            for (int m = 0; m < machines.size(); m++) {
                if (machines.get(m).load == l) {
                    return 10 + m;
                }
            }
            return l.how.equals("dirty") ? 0 : l.how.equals("wet") ? 1 : 2;
        }

        int late(Load l) {
            return Math.max(0, (l.how.equals("dry") ? l.end : tick) - l.due);
        }

        int late() {
            return loads.stream().mapToInt(this::late).sum();
        }

        int bits(String how) {
            return loads.stream().filter(l -> l.how.equals(how)).mapToInt(l -> 1 << l.number).sum();
        }

        int many(String how) {
            return Integer.bitCount(bits(how));
        }

        boolean allDry() {
            return many("dry") == loads.size();
        }

        int openBits() {
            int bits = 0;
            for (int m = 0; m < machines.size(); m++) {
                bits += machines.get(m).open ? 1 << m : 0;
            }
            return bits;
        }

        Shop openJust(int bits) {
            for (int m = 0; m < machines.size(); m++) {
                machines.get(m).open = (bits >> m & 1) == 1;
            }
            return this;
        }
    }

    Shop shop;
    private final List<Shop> past = new ArrayList<>();
    private final Shop[] images = new Shop[2];
    private final List<Integer> trace = new ArrayList<>();

    void told(Shop told) {
        shop = told;
        past.clear();
    }

    private void act() {
        past.add(shop.twin());
        if (past.size() > 24) {
            past.remove(0);
        }
    }

    int undo() {
        if (past.isEmpty()) {
            return Check.STATE;
        }
        shop = past.remove(past.size() - 1);
        return past.size();
    }

    int ticks(int n) {
        if (n < 1 || n > 24) {
            return Check.BAD;
        }
        if (shop.tick + n > 999) {
            return Check.FULL;
        }
        for (int i = 0; i < n; i++) {
            act();
            shop.tick();
        }
        return shop.bits("dry");
    }

    private boolean noMachine(int m) {
        return m < 0 || m >= shop.machines.size();
    }

    private boolean noLoad(int l) {
        return l < 0 || l >= shop.loads.size();
    }

    private static boolean out(int v, int least, int most) {
        return v < least || v > most;
    }

    int shut(int m) {
        if (noMachine(m)) {
            return Check.BAD;
        }
        act();
        Machine one = shop.machines.get(m);
        one.open = !one.open;
        return one.open ? 1 : 0;
    }

    int power(int v) {
        if (out(v, 1, 5)) {
            return Check.BAD;
        }
        act();
        int was = shop.power;
        shop.power = v;
        return was;
    }

    int due(int l, int v) {
        if (noLoad(l) || out(v, 0, 99)) {
            return Check.BAD;
        }
        act();
        int was = shop.loads.get(l).due;
        shop.loads.get(l).due = v;
        return was;
    }

    int again(int l, int size) {
        if (noLoad(l) || out(size, 1, 9)) {
            return Check.BAD;
        }
        if (!shop.loads.get(l).how.equals("dry")) {
            return Check.STATE;
        }
        act();
        shop.loads.get(l).how = "dirty";
        shop.loads.get(l).size = size;
        return shop.bits("dirty");
    }

    int machine(int m, int what) {
        if (noMachine(m) || out(what, 0, 6)) {
            return Check.BAD;
        }
        Machine one = shop.machines.get(m);
        return new int[] {one.room, one.slow, one.open ? 1 : 0, one.load == null ? Check.NONE : one.load.number,
            one.load == null ? 0 : one.left, one.done, one.washes() ? 1 : 0}[what];
    }

    int load(int l, int what) {
        if (noLoad(l) || out(what, 0, 4)) {
            return Check.BAD;
        }
        Load one = shop.loads.get(l);
        return new int[] {one.size, one.due, shop.code(one), one.how.equals("dry") ? one.end : Check.NONE,
            shop.late(one)}[what];
    }

    int lasts(int m, int l) {
        return noMachine(m) || noLoad(l) ? Check.BAD : shop.machines.get(m).lasts(shop.loads.get(l));
    }

    int stand(int what) {
        if (out(what, 0, 5)) {
            return Check.BAD;
        }
        int busy = 0;
        for (int m = 0; m < shop.machines.size(); m++) {
            busy += shop.machines.get(m).load != null ? 1 << m : 0;
        }
        return new int[] {shop.power, shop.bits("dirty"), shop.bits("wet"), shop.bits("dry"), shop.openBits(),
            busy}[what];
    }

    int ahead(int l, int n, int what) {
        if (noLoad(l) || out(n, 0, 60) || out(what, 0, 1)) {
            return Check.BAD;
        }
        Shop t = shop.twin().ticked(n);
        return what == 0 ? t.code(t.loads.get(l)) : t.late(t.loads.get(l));
    }

    int inside(int m, int n, int what) {
        if (noMachine(m) || out(n, 0, 60) || out(what, 0, 2)) {
            return Check.BAD;
        }
        Machine one = shop.twin().ticked(n).machines.get(m);
        if (what == 0) {
            return one.load == null ? Check.NONE : one.load.number;
        }
        return what == 1 ? one.left : one.done;
    }

    int all(int n, int what) {
        if (out(n, 0, 60) || out(what, 0, 1)) {
            return Check.BAD;
        }
        Shop t = shop.twin().ticked(n);
        return what == 0 ? t.bits("dry") : t.late();
    }

    int when(int l, int how) {
        if (noLoad(l) || out(how, 1, 2)) {
            return Check.BAD;
        }
        for (int n = 0; n <= 60; n++) {
            Shop t = shop.twin().ticked(n);
            int code = t.code(t.loads.get(l));
            boolean washed = code == 1 || code == 2 || code >= 10 && !t.machines.get(code - 10).washes();
            if (how == 1 ? washed : code == 2) {
                return n;
            }
        }
        return Check.NONE;
    }

    int over() {
        for (int n = 0; n <= 60; n++) {
            if (shop.twin().ticked(n).allDry()) {
                return n;
            }
        }
        return Check.NONE;
    }

    private int[] bestKey;
    private List<Integer> bestOrder;

    int order(int n, int k) {
        if (out(n, 1, 50) || k < -1) {
            return Check.BAD;
        }
        bestKey = null;
        permute(new ArrayList<>(), n);
        if (k == -1) {
            return bestKey[0];
        }
        return k < bestOrder.size() ? bestOrder.get(k) : Check.NONE;
    }

    private void permute(List<Integer> head, int n) {
        if (head.size() == shop.loads.size()) {
            Shop t = shop.twin();
            t.rank = new ArrayList<>();
            head.forEach(l -> t.rank.add(t.loads.get(l)));
            t.ticked(n);
            int[] key = {t.late(), -t.many("dry")};
            if (bestKey == null || key[0] < bestKey[0] || key[0] == bestKey[0] && key[1] < bestKey[1]) {
                bestKey = key;
                bestOrder = new ArrayList<>(head);
            }
            return;
        }
        for (int l = 0; l < shop.loads.size(); l++) {
            if (!head.contains(l)) {
                head.add(l);
                permute(head, n);
                head.remove(head.size() - 1);
            }
        }
    }

    int need(int n) {
        if (out(n, 1, 50)) {
            return Check.BAD;
        }
        for (int v = 1; v <= 5; v++) {
            Shop t = shop.twin();
            t.power = v;
            if (t.ticked(n).allDry()) {
                return v;
            }
        }
        return Check.NONE;
    }

    int open(int n, int what) {
        if (out(n, 1, 50) || out(what, 0, 1)) {
            return Check.BAD;
        }
        for (int many = 0; many <= shop.machines.size(); many++) {
            for (int bits = 0; bits < 1 << shop.machines.size(); bits++) {
                if (Integer.bitCount(bits) == many && shop.twin().openJust(bits).ticked(n).allDry()) {
                    return what == 0 ? many : bits;
                }
            }
        }
        return Check.NONE;
    }

    int fills(int m, int what) {
        if (noMachine(m) || out(what, 0, 2)) {
            return Check.BAD;
        }
        List<TreeSet<Integer>> sets = new ArrayList<>();
        gather(0, shop.machines.get(m).room, new TreeSet<>(), sets);
        int all = 0;
        int any = 0;
        for (int l = 0; l < shop.loads.size(); l++) {
            int number = l;
            all += !sets.isEmpty() && sets.stream().allMatch(s -> s.contains(number)) ? 1 << l : 0;
            any += sets.stream().anyMatch(s -> s.contains(number)) ? 1 << l : 0;
        }
        return new int[] {sets.size(), all, any}[what];
    }

    private void gather(int from, int rest, TreeSet<Integer> chosen, List<TreeSet<Integer>> sets) {
        if (rest == 0) {
            sets.add(new TreeSet<>(chosen));
            return;
        }
        for (int l = from; l < shop.loads.size(); l++) {
            Load one = shop.loads.get(l);
            if (!one.how.equals("dry") && one.size <= rest) {
                chosen.add(l);
                gather(l + 1, rest - one.size, chosen, sets);
                chosen.remove(l);
            }
        }
    }

    int share(int m, int n) {
        if (noMachine(m) || out(n, 0, 999)) {
            return Check.BAD;
        }
        int sum = shop.machines.stream().mapToInt(o -> o.done).sum();
        if (sum == 0) {
            return 0;
        }
        int[] gets = new int[shop.machines.size()];
        int over = n;
        for (int i = 0; i < gets.length; i++) {
            gets[i] = n * shop.machines.get(i).done / sum;
            over -= gets[i];
        }
        for (int i = 0; i < gets.length && over > 0; i++) {
            if (shop.machines.get(i).done > 0) {
                gets[i]++;
                over--;
            }
        }
        return gets[m];
    }

    int byTurns(int n, int m) {
        return out(n, 0, 4) || out(m, 1, 20) ? Check.BAD : play(shop.openBits(), 0, n, m);
    }

    private int play(int open, int turn, int n, int m) {
        if (turn == n) {
            return shop.twin().openJust(open).ticked(m).many("dry");
        }
        boolean shuts = turn % 2 == 0;
        int best = play(open, turn + 1, n, m);
        for (int i = 0; i < shop.machines.size(); i++) {
            if ((open >> i & 1) == (shuts ? 1 : 0)) {
                int then = play(open ^ 1 << i, turn + 1, n, m);
                best = shuts ? Math.min(best, then) : Math.max(best, then);
            }
        }
        return best;
    }

    private static boolean told(Shop t, int[] row) {
        for (int told : row) {
            t.tick();
            if (t.many("wet") + 10 * t.many("dry") != told) {
                return false;
            }
        }
        return true;
    }

    int who(int m, int which, int[] row) {
        int bits = 0;
        for (int v = which == 2 ? 0 : 1; v <= new int[] {5, 9, 5}[which]; v++) {
            Shop t = shop.twin();
            Machine one = t.machines.get(m);
            if (which == 0) {
                one.sort = " wqgds".charAt(v);
            } else if (which == 1) {
                one.room = v;
            } else {
                one.slow = v;
            }
            bits += told(t, row) ? 1 << v : 0;
        }
        return bits;
    }

    int sizes(int l, int[] row) {
        if (shop.code(shop.loads.get(l)) >= 10) {
            return Check.STATE;
        }
        int bits = 0;
        for (int v = 1; v <= 9; v++) {
            Shop t = shop.twin();
            t.loads.get(l).size = v;
            bits += told(t, row) ? 1 << v : 0;
        }
        return bits;
    }

    long breaks(int l, int n, int p, int what) {
        if (noLoad(l) || out(n, 0, 60) || out(p, 0, 10) || out(what, 0, 1)) {
            return Check.BAD;
        }
        long above = 0;
        long below = 1;
        for (Machine m : shop.machines) {
            below *= m.open ? 10 : 1;
        }
        above = casesDry(shop.twin(), 0, l, n, p);
        for (long d = below; d > 1; d--) {
            if (above % d == 0 && below % d == 0) {
                above /= d;
                below /= d;
            }
        }
        return what == 0 ? above : below;
    }

    private long casesDry(Shop t, int m, int l, int n, int p) {
        if (m == t.machines.size()) {
            return t.twin().ticked(n).loads.get(l).how.equals("dry") ? 1 : 0;
        }
        Machine one = t.machines.get(m);
        if (!one.open) {
            return casesDry(t, m + 1, l, n, p);
        }
        long stays = (10 - p) * casesDry(t, m + 1, l, n, p);
        one.open = false;
        long shuts = p * casesDry(t, m + 1, l, n, p);
        one.open = true;
        return stays + shuts;
    }

    int drawn(int n, int seed, int what) {
        if (out(n, 0, 60) || out(seed, 1, 999999) || out(what, 0, 1)) {
            return Check.BAD;
        }
        Shop t = shop.twin();
        long x = seed;
        int came = 0;
        for (int i = 0; i < n; i++) {
            x = x * 16807 % 2147483647L;
            Load l = t.loads.get((int) (x % t.loads.size()));
            if (l.how.equals("dry")) {
                l.how = "dirty";
                l.size = (int) (x % 9) + 1;
                l.due = (int) Math.min(99, t.tick + x % 20);
            } else if (x % 3 == 0) {
                Machine m = t.machines.get((int) (x % t.machines.size()));
                m.open = !m.open;
            }
            t.tick();
            int now = t.tick - 1;
            came += (int) t.loads.stream().filter(o -> o.how.equals("dry") && o.end == now).count();
        }
        return what == 0 ? came : t.late();
    }

    int image(int k) {
        images[k] = shop.twin();
        return 1;
    }

    int restore(int k) {
        if (images[k] == null) {
            return Check.STATE;
        }
        told(images[k].twin());
        return 1;
    }

    int count(int what) {
        return new int[] {0, shop.machines.size(), shop.loads.size(), shop.tick, shop.many("dry"),
            shop.machines.stream().mapToInt(m -> m.done).sum(), shop.late(), past.size(), 0}[what];
    }

    int ask(int m, int what) {
        trace.clear();
        return what == 0 ? size(m) : mark(m);
    }

    List<Integer> trace() {
        return trace;
    }

    private int size(int m) {
        Machine one = shop.machines.get(m);
        if (one.sort == 'd') {
            trace.add(13);
            trace.add(10);
            return one.room - 100;
        }
        if (one.sort == 's') {
            trace.addAll(List.of(14, 13, 10));
            return 2 * (one.room - 100);
        }
        if (one.sort == 'q') {
            trace.add(12);
        }
        trace.addAll(List.of(11, 10));
        int washer = one.room + mark(m);
        return one.sort == 'q' ? -washer : washer;
    }

    private int mark(int m) {
        Machine one = shop.machines.get(m);
        if (!one.washes()) {
            trace.addAll(List.of(23, 20));
            return m - size(m);
        }
        if (one.sort != 'w') {
            trace.add(one.sort == 'g' ? 22 : 24);
        }
        trace.addAll(List.of(21, 20));
        int washer = m + one.done;
        return one.sort == 'g' ? washer - 1000 : one.sort == 'q' ? 2 * washer : washer;
    }
}
