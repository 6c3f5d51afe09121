import java.lang.reflect.Method;
import java.util.ArrayList;
import java.util.List;
import java.util.Random;

/** Any arguments in any state: nothing is thrown, and what is refused, found or only asked changes nothing. */
public final class EdgesTest {
    private static final int[] ODD = {
        Integer.MIN_VALUE, Integer.MIN_VALUE + 1, -1000001, -2, -1, 0, 1, 2, 3, 4, 5, 6, 7, 8, 9, 10, 11, 12, 13, 20,
        21, 24, 25, 39, 40, 41, 50, 51, 60, 61, 99, 100, 999, 1000, 999999, 1000000, Integer.MAX_VALUE - 1,
        Integer.MAX_VALUE
    };
    private static final String[] TEXTS = {
        "l5;w9,5;q9,5;g9,5;d9,5;s9,5;b9,60;b9,60;b9,60;b9,60;b9,60;b9,60;", "l1;q1,0;b1,0;",
        "l2;g6,1;d5,2;s7,0;w3,3;b6,4;b3,8;b5,2;b1,30;", "l1;d9,0;b1,0;", "l2;q9,0;s9,0;b1,0;b1,3;", "l9;", ""
    };
    private static final List<String> ONLY_ASK = List.of("machine", "load", "lasts", "stand", "ahead", "inside", "all",
        "when", "over", "order", "need", "open", "fills", "share", "byTurns", "who", "sizes", "breaks", "drawn", "kind",
        "as", "trace", "count", "status", "fault");
    private static final Check check = new Check();
    private static final Method[] FACE = Run.calls().values().toArray(new Method[0]);

    public static void main(String[] args) {
        for (int run = 0; run < 3000; run++) {
            go(new Random(run));
        }
        check.end();
    }

    private static void go(Random random) {
        List<String> drawn = new ArrayList<>();
        drawn.add("tell " + TEXTS[random.nextInt(TEXTS.length)]);
        for (int i = random.nextInt(10); i > 0; i--) {
            drawn.add(drawCall(random));
        }
        // once more at most: an object is used for 512 calls
        if (random.nextInt(4) == 0) {
            drawn.add(random.nextInt(drawn.size()) + 1, "tell " + TEXTS[random.nextInt(TEXTS.length)]);
        }
        String[] run = drawn.toArray(new String[0]);
        Given given = new Given(check, run);
        for (int i = 0; i < 4; i++) {
            String call = drawCall(random);
            long answer = new Run(run).call(call);
            if (answer <= Check.BAD && answer >= Check.STORE) {
                given.refuses(call, answer);
            } else if (ONLY_ASK.contains(call.split(" ")[0])) {
                given.changesNothing(call);
            }
        }
    }

    private static String drawCall(Random random) {
        Method call = FACE[random.nextInt(FACE.length)];
        StringBuilder text = new StringBuilder(call.getName());
        for (int a = 0; a < call.getParameterCount(); a++) {
            text.append(' ').append(random.nextInt(3) == 0 ? ODD[random.nextInt(ODD.length)] : random.nextInt(7));
        }
        return text.toString();
    }
}
