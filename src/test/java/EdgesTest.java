import java.lang.reflect.Method;
import java.util.ArrayList;
import java.util.Comparator;
import java.util.List;
import java.util.Random;

/** Any arguments in any state: nothing is thrown, and what is refused or found changes nothing. */
public final class EdgesTest {
    private static final int[] ODD = {
        Integer.MIN_VALUE, Integer.MIN_VALUE + 1, -1000001, -2, -1, 0, 1, 2, 3, 4, 5, 6, 7, 8, 9, 10, 11, 12, 13, 20,
        21, 24, 25, 39, 40, 41, 50, 51, 60, 61, 99, 100, 999, 1000, 999999, 1000000, Integer.MAX_VALUE - 1,
        Integer.MAX_VALUE
    };
    private static final String[] TEXTS = {
        "l5;w9,5;q9,5;g9,5;d9,5;s9,5;b9,60;b9,60;b9,60;b9,60;b9,60;b9,60;", "l1;q1,0;b1,0;",
        "l2;g6,1;d5,2;s7,0;w3,3;b6,4;b3,8;b5,2;b1,30;", "l1;d9,0;b1,0;", "l9;", ""
    };
    private static final Check check = new Check();

    public static void main(String[] args) throws Exception {
        List<Method> calls = new ArrayList<>();
        for (Method m : LaundryLoads.class.getDeclaredMethods()) {
            if (java.lang.reflect.Modifier.isPublic(m.getModifiers())) {
                calls.add(m);
            }
        }
        calls.sort(Comparator.comparing(Method::getName));
        for (int run = 0; run < 300; run++) {
            go(new Random(run), calls);
        }
        check.end();
    }

    private static void go(Random random, List<Method> calls) throws Exception {
        LaundryLoads x = new LaundryLoads();
        for (int i = 0; i < 200; i++) {
            if (random.nextInt(20) == 0) {
                Check.tell(x, TEXTS[random.nextInt(TEXTS.length)]);
            }
            Method call = calls.get(random.nextInt(calls.size()));
            Object[] with = new Object[call.getParameterCount()];
            for (int a = 0; a < with.length; a++) {
                with[a] = random.nextInt(3) == 0 ? ODD[random.nextInt(ODD.length)] : random.nextInt(7);
            }
            String before = picture(x);
            long answer = ((Number) call.invoke(x, with)).longValue();
            boolean refused = answer <= Check.BAD && answer >= -1000015;
            if (refused || foretells(call.getName())) {
                check.due(call.getName() + " changes nothing", picture(x).equals(before) ? 1 : 0, 1);
            }
        }
    }

    private static boolean foretells(String call) {
        return List.of("machine", "load", "lasts", "stand", "ahead", "inside", "all", "when", "over", "order", "need",
            "open", "fills", "share", "byTurns", "who", "sizes", "breaks", "drawn", "image", "kind", "as", "trace",
            "count", "status", "fault").contains(call);
    }

    private static String picture(LaundryLoads x) {
        StringBuilder all = new StringBuilder();
        for (int what = 0; what < 9; what++) {
            all.append(x.count(what)).append(' ').append(x.stand(what)).append(' ');
            for (int one = 0; one < 6; one++) {
                all.append(x.machine(one, what)).append(' ').append(x.load(one, what)).append(' ');
            }
            all.append(x.trace(what)).append(' ').append(x.kind(what)).append(' ');
        }
        return all.append(x.fault()).toString();
    }
}
