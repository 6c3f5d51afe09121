/** What the tests share: counts the answers that are not as due. */
final class Check {
    static final int NONE = -1000000, BAD = -1000001, STATE = -1000002, FULL = -1000003;
    static final int NULL = -1000011, PLACE = -1000012, KIND = -1000013, SIZE = -1000014, STORE = -1000015;

    private int wrong;
    private int calls;

    void due(String call, long got, long want) {
        calls++;
        if (got != want) {
            wrong++;
            System.out.println(call + " answered " + got + ", due is " + want);
        }
    }

    /** The answers are those for 0, 1, 2 and so on. */
    interface Asked {
        long of(int i);
    }

    void dues(String call, Asked asked, long... wants) {
        for (int i = 0; i < wants.length; i++) {
            due(call + " [" + i + "]", asked.of(i), wants[i]);
        }
    }

    static LaundryLoads told(String text) {
        LaundryLoads x = new LaundryLoads();
        tell(x, text);
        return x;
    }

    static int tell(LaundryLoads x, String text) {
        for (int i = 0; i < text.length(); i++) {
            x.feed(text.charAt(i));
        }
        return x.launderette();
    }

    static void fill(LaundryLoads x, int row, int... items) {
        x.row(row, 2, items.length);
        for (int i = 0; i < items.length; i++) {
            x.set(row, i, items[i]);
        }
    }

    void end() {
        System.out.println(calls + " answers, " + wrong + " not as due");
        if (wrong != 0) {
            System.exit(1);
        }
    }
}
