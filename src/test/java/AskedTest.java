/** Promises 36 to 39: kinds, machines taken as others, asks and the trace. */
public final class AskedTest {
    private static final Check check = new Check();
    private static final String ALL_KINDS = "l5;w5,0;q6,0;g4,0;d7,0;s9,0;b1,9;b1,9;";

    public static void main(String[] args) {
        kinds();
        asks();
        refusals();
        check.end();
    }

    private static void kinds() {
        LaundryLoads x = Check.told(ALL_KINDS);
        check.dues("kind", x::kind, 1, 2, 3, 4, 5, Check.BAD);
        check.due("kind -1", x.kind(-1), Check.BAD);
        int no = Check.KIND;
        check.dues("a washer", k -> x.as(0, k), 0, 0, no, no, no, no, Check.BAD);
        check.dues("a quick one", k -> x.as(1, k), 1, 1, 1, no, no, no);
        check.dues("a greedy one", k -> x.as(2, k), 2, 2, no, 2, no, no);
        check.dues("a dryer", k -> x.as(3, k), 3, no, no, no, 3, no);
        check.dues("a spinner", k -> x.as(4, k), 4, no, no, no, 4, 4);
        check.due("kind -1", x.as(0, -1), Check.BAD);
        check.due("machine 5", x.as(5, 0), Check.BAD);
    }

    private static void asked(LaundryLoads x, int one, int what, int answer, int... trace) {
        String call = "ask(" + one + ", " + what + ")";
        check.due(call, x.ask(one, what), answer);
        for (int i = 0; i < trace.length; i++) {
            check.due("trace of " + call, x.trace(i), trace[i]);
        }
        check.due("end of the trace of " + call, x.trace(trace.length), Check.NONE);
    }

    private static void asks() {
        LaundryLoads x = Check.told(ALL_KINDS);
        x.ticks(3);
        check.dues("done", m -> x.machine(m, 5), 1, 1, 0, 1, 1);
        asked(x, 0, 0, 6, 11, 10, 21, 20);
        asked(x, 1, 0, -10, 12, 11, 10, 24, 21, 20);
        asked(x, 2, 0, -994, 11, 10, 22, 21, 20);
        asked(x, 3, 0, -93, 13, 10);
        asked(x, 4, 0, -182, 14, 13, 10);
        asked(x, 0, 1, 1, 21, 20);
        asked(x, 1, 1, 4, 24, 21, 20);
        asked(x, 2, 1, -998, 22, 21, 20);
        asked(x, 3, 1, 96, 23, 20, 13, 10);
        asked(x, 4, 1, 186, 23, 20, 14, 13, 10);
    }

    private static void refusals() {
        LaundryLoads x = Check.told(ALL_KINDS);
        check.due("no trace yet", x.trace(0), Check.NONE);
        x.ask(3, 0);
        check.due("what 2", x.ask(0, 2), Check.BAD);
        check.due("what -1", x.ask(0, -1), Check.BAD);
        check.due("machine 5", x.ask(5, 0), Check.BAD);
        check.due("the trace stays", x.trace(0), 13);
        check.due("trace -1", x.trace(-1), Check.NONE);
        check.due("trace 16", x.trace(16), Check.NONE);
        check.due("greatest", x.trace(Integer.MAX_VALUE), Check.NONE);
    }
}
