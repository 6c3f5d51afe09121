import java.lang.reflect.Method;
import java.lang.reflect.Modifier;
import java.util.Map;
import java.util.TreeMap;

/** Calls told as texts ("ticks 3"), so that one run can be made on several objects. */
final class Run {
    /** An object is used for at most so many calls; the tests keep to it. */
    static final int MOST_CALLS = 512;

    private static final Map<String, Method> FACE = face();

    private final LaundryLoads x = new LaundryLoads();
    private int calls;

    Run(String... texts) {
        for (String text : texts) {
            call(text);
        }
    }

    private static Map<String, Method> face() {
        Map<String, Method> face = new TreeMap<>();
        for (Method m : LaundryLoads.class.getDeclaredMethods()) {
            if (Modifier.isPublic(m.getModifiers())) {
                face.put(m.getName(), m);
            }
        }
        return face;
    }

    static Map<String, Method> calls() {
        return FACE;
    }

    /**
     * Beside the calls of the face: "tell TEXT" feeds and reads, "feeds TEXT" only feeds,
     * "fill ROW ITEMS.." makes a row of ints; "8*ticks 24" makes a call eight times.
     */
    long call(String text) {
        int star = text.indexOf('*');
        if (star > 0) {
            long latest = 0;
            for (int i = Integer.parseInt(text.substring(0, star)); i > 0; i--) {
                latest = call(text.substring(star + 1));
            }
            return latest;
        }
        String[] words = text.split(" ");
        switch (words[0]) {
            case "feeds": return feeds(words.length > 1 ? words[1] : "");
            case "tell":
                feeds(words.length > 1 ? words[1] : "");
                return call("launderette");
            case "fill": return fill(words);
            default: return one(words);
        }
    }

    private long feeds(String letters) {
        long latest = 0;
        for (int i = 0; i < letters.length(); i++) {
            latest = one(new String[] {"feed", Integer.toString(letters.charAt(i))});
        }
        return latest;
    }

    private long fill(String[] words) {
        one(new String[] {"row", words[1], "2", Integer.toString(words.length - 2)});
        for (int i = 2; i < words.length; i++) {
            one(new String[] {"set", words[1], Integer.toString(i - 2), words[i]});
        }
        return words.length - 2;
    }

    private long one(String[] words) {
        calls++;
        if (calls > MOST_CALLS) {
            throw new IllegalStateException("more calls than an object is used for");
        }
        Object[] with = new Object[words.length - 1];
        for (int i = 0; i < with.length; i++) {
            with[i] = Integer.valueOf(words[i + 1]);
        }
        try {
            return ((Number) FACE.get(words[0]).invoke(x, with)).longValue();
        } catch (ReflectiveOperationException e) {
            throw new IllegalStateException(String.join(" ", words), e);
        }
    }

    private void look(StringBuilder all, String call) {
        all.append(call).append(": ").append(call(call)).append('\n');
    }

    /**
     * All that can be seen of the object but status(), and then what lies behind it: the rows are
     * looked into and dropped, acts undone, images restored, the tape read. Nothing of it is left.
     */
    String seen() {
        StringBuilder all = new StringBuilder();
        lookAround(all);
        for (int i = 0; i < 17; i++) {
            look(all, "trace " + i);
        }
        look(all, "fault");
        lookIntoRows(all);
        for (int i = 0; i < 25 && call("count 7") > 0; i++) {
            look(all, "undo");
            look(all, "stand 0");
            look(all, "stand 3");
            look(all, "stand 4");
            look(all, "count 6");
        }
        lookAround(all);
        look(all, "restore 0");
        look(all, "count 3");
        look(all, "stand 4");
        look(all, "restore 1");
        look(all, "count 3");
        look(all, "stand 4");
        look(all, "feed 59");
        look(all, "launderette");
        look(all, "fault");
        return all.toString();
    }

    private void lookAround(StringBuilder all) {
        for (int what = 0; what < 9; what++) {
            look(all, "count " + what);
        }
        for (int what = 0; what < 6; what++) {
            look(all, "stand " + what);
        }
        long machines = call("count 1");
        for (int m = 0; m < machines; m++) {
            look(all, "kind " + m);
            for (int what = 0; what < 6; what++) {
                look(all, "machine " + m + " " + what);
            }
        }
        long loads = call("count 2");
        for (int l = 0; l < loads; l++) {
            for (int what = 0; what < 4; what++) {
                look(all, "load " + l + " " + what);
            }
        }
        look(all, "order 9 -1");
    }

    /** What an item is cannot be asked for, but whether it is what is foretold behind a tick. */
    private void lookIntoRows(StringBuilder all) {
        for (int row = 0; row < 8; row++) {
            for (int i = 0; i < 5; i++) {
                look(all, "who 0 1 " + row + " " + i + " 1");
            }
            look(all, "set " + row + " 0 74565");
            look(all, "drop " + row);
        }
    }
}
