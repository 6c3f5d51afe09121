import java.lang.reflect.Constructor;
import java.lang.reflect.Field;
import java.lang.reflect.Method;
import java.lang.reflect.Modifier;
import java.nio.file.Files;
import java.nio.file.Path;
import java.util.HashSet;
import java.util.Set;
import java.util.TreeSet;
import java.util.regex.Matcher;
import java.util.regex.Pattern;

/** The face, and the rules of LANGUAGE.md that can be seen in the text; its argument is the class's file. */
public final class LanguageTest {
    private static final Check check = new Check();
    private static final String FACE = "row3 set3 copy5 drop1 feed1 launderette0 fault0 undo0 ticks1 shut1 power1 due2 "
        + "again2 machine2 load2 lasts2 stand1 ahead3 inside3 all2 when2 over0 order2 need1 open2 fills2 share2 "
        + "byTurns2 who5 sizes4 breaks4 drawn3 image1 restore1 kind1 as2 ask2 trace1 count1 status0";

    public static void main(String[] args) throws Exception {
        face();
        if (args.length > 0) {
            text(Files.readString(Path.of(args[0])));
        }
        check.end();
    }

    private static void face() throws Exception {
        Set<String> wanted = new TreeSet<>(Set.of(FACE.split(" ")));
        Set<String> seen = new TreeSet<>();
        Set<String> names = new HashSet<>();
        for (Method m : LaundryLoads.class.getDeclaredMethods()) {
            if (Modifier.isPublic(m.getModifiers())) {
                seen.add(m.getName() + m.getParameterCount());
                names.add(m.getName());
                check.due(m + " is not static", Modifier.isStatic(m.getModifiers()) ? 1 : 0, 0);
                check.due("type of " + m, m.getReturnType() == (m.getName().equals("breaks") ? long.class : int.class)
                    ? 1 : 0, 1);
            } else {
                check.due(m + " is private", Modifier.isPrivate(m.getModifiers()) ? 1 : 0, 1);
            }
        }
        check.due("the face " + seen, seen.equals(wanted) ? 1 : 0, 1);
        for (Class<?> inner : LaundryLoads.class.getDeclaredClasses()) {
            check.due(inner + " is static", Modifier.isStatic(inner.getModifiers()) ? 1 : 0, 1);
            for (Method m : inner.getDeclaredMethods()) {
                check.due(m + " bears no public name", names.contains(m.getName()) ? 1 : 0, 0);
            }
        }
        for (Method m : LaundryLoads.class.getDeclaredMethods()) {
            check.due(m + " bears no public name", !Modifier.isPublic(m.getModifiers())
                && names.contains(m.getName()) ? 1 : 0, 0);
        }
        constants();
        check.due("the class is final", Modifier.isFinal(LaundryLoads.class.getModifiers()) ? 1 : 0, 1);
        Constructor<?>[] made = LaundryLoads.class.getDeclaredConstructors();
        check.due("one constructor", made.length, 1);
        check.due("without parameters", made[0].getParameterCount(), 0);
    }

    private static void constants() {
        check.due("NONE", LaundryLoads.NONE, -1000000);
        check.due("BAD", LaundryLoads.BAD, -1000001);
        check.due("STATE", LaundryLoads.STATE, -1000002);
        check.due("FULL", LaundryLoads.FULL, -1000003);
        int open = 0;
        for (Field f : LaundryLoads.class.getDeclaredFields()) {
            if (Modifier.isPrivate(f.getModifiers())) {
                check.due(f + ", if static, is final", Modifier.isStatic(f.getModifiers())
                    && !Modifier.isFinal(f.getModifiers()) ? 1 : 0, 0);
            } else {
                open++;
            }
        }
        check.due("public fields", open, 4);
    }

    private static void text(String source) {
        String code = source.replaceAll("(?s)/\\*.*?\\*/", " ").replaceAll("//[^\n]*", " ");
        for (String word : ("throw try catch synchronized assert import package enum lambda equals hashCode toString "
            + "double float Object Random System.nanoTime System.currentTimeMillis String Thread native "
            + "strictfp transient volatile var goto").split(" ")) {
            check.due("'" + word + "'", count(code, "\\b" + Pattern.quote(word) + "\\b"), 0);
        }
        check.due("lambdas", count(code, "->"), 0);
        check.due("method references", count(code, "::"), 0);
        check.due("names that end in Exact", count(code, "Exact\\b"), 0);
        check.due("loops without a bound", count(code, "for \\(;|while \\(true"), 0);
        library(code);
        check.due("signs beyond 127", count(source, "[^\\x00-\\x7f]"), 0);
        check.due("classes, at most 12", count(code, "\\bclass\\b") <= 12 ? 1 : 0, 1);
        longMethods(source.split("\n", -1));
    }

    /** No class but its own and these is named, and of these only what is listed. */
    private static void library(String code) {
        Matcher names = Pattern.compile("\\b[A-Z]\\w*[a-z]\\w*\\b").matcher(code);
        Set<String> own = new TreeSet<>(Set.of("LaundryLoads", "Math", "Integer", "System"));
        for (Class<?> inner : LaundryLoads.class.getDeclaredClasses()) {
            own.add(inner.getSimpleName());
        }
        while (names.find()) {
            check.due("a class of its own, or listed: " + names.group(), own.contains(names.group()) ? 1 : 0, 1);
        }
        check.due("System", count(code, "\\bSystem\\.(?!arraycopy\\b)"), 0);
        check.due("Math", count(code, "\\bMath\\.(?!(max|min)\\b)"), 0);
        check.due("Integer", count(code, "\\bInteger\\b(?!\\.bitCount\\b)"), 0);
    }

    private static int count(String text, String pattern) {
        Matcher m = Pattern.compile(pattern).matcher(text);
        int many = 0;
        while (m.find()) {
            many++;
        }
        return many;
    }

    /** A method begins with a line that ends in ") {" and ends with a brace as far in. */
    private static void longMethods(String[] lines) {
        for (int i = 0; i < lines.length; i++) {
            String line = lines[i];
            int in = line.length() - line.stripLeading().length();
            if ((in == 4 || in == 8) && line.matches("\\s+[\\w\\[\\]. ]+\\(.*\\) \\{") && !line.matches(
                "\\s+(if|for|while|switch)\\b.*")) {
                int end = i;
                while (end < lines.length - 1 && !lines[end].equals(" ".repeat(in) + "}")) {
                    end++;
                }
                check.due("at most 60 lines: " + line.trim(), end - i > 60 ? 1 : 0, 0);
                check.due("at most 7 parameters: " + line.trim(), count(line, ",") > 6 ? 1 : 0, 0);
            }
        }
    }
}
