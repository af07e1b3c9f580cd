import java.lang.reflect.Method;
import java.lang.reflect.Modifier;
import java.nio.file.Files;
import java.nio.file.Path;
import java.util.ArrayList;
import java.util.List;
import java.util.regex.Matcher;
import java.util.regex.Pattern;

/** Runs the example of README.md, line by line, and sees that its table names each method of the class once. */
public final class ReadmeTest {
    private static final Pattern LINE = Pattern.compile("river\\.(\\w+)\\((.*)\\); +// (-?\\d+): .*");
    private static int wrong = 0;

    private static void need(boolean so, String what) {
        if (!so) {
            wrong++;
            System.out.println(what);
        }
    }

    private static Method methodNamed(String name) {
        for (Method m : RiverSteamers.class.getDeclaredMethods()) {
            if (Modifier.isPublic(m.getModifiers()) && m.getName().equals(name)) return m;
        }
        return null;
    }

    private static Object[] arguments(Method m, String told) {
        List<Object> all = new ArrayList<>();
        Class<?>[] kinds = m.getParameterTypes();
        String[] words = told.isEmpty() ? new String[0] : told.split(", ");
        for (int i = 0; i < words.length && i < kinds.length; i++) {
            if (kinds[i] == boolean.class) all.add(Boolean.valueOf(words[i]));
            else all.add(Integer.valueOf(words[i]));
        }
        return all.toArray();
    }

    private static void example(String readme) throws Exception {
        int from = readme.indexOf("```java\n") + 8;
        String[] lines = readme.substring(from, readme.indexOf("```", from)).split("\n");
        need(lines[0].equals("RiverSteamers river = new RiverSteamers();"), "the example begins otherwise");
        need(lines.length > 10, "the example has but " + lines.length + " lines");
        RiverSteamers river = new RiverSteamers();
        for (int i = 1; i < lines.length; i++) {
            Matcher m = LINE.matcher(lines[i]);
            Method called = m.matches() ? methodNamed(m.group(1)) : null;
            if (called == null) {
                need(false, "this line is no call with its answer: " + lines[i]);
                continue;
            }
            Object got = called.invoke(river, arguments(called, m.group(2)));
            need(got.equals(Integer.valueOf(m.group(3))), lines[i] + " (answered " + got + ")");
        }
    }

    private static void table(String readme) {
        StringBuilder rows = new StringBuilder();
        for (String line : readme.split("\n")) {
            if (line.startsWith("| ")) rows.append(line).append('\n');
        }
        int methods = 0;
        for (Method m : RiverSteamers.class.getDeclaredMethods()) {
            if (!Modifier.isPublic(m.getModifiers())) continue;
            methods++;
            int times = rows.toString().split("`" + m.getName() + "`", -1).length - 1;
            need(times == 1, "the table names " + m.getName() + " " + times + " times");
        }
        need(rows.toString().split("`", -1).length - 1 == 2 * methods, "the table names what is no method");
    }

    public static void main(String[] args) throws Exception {
        String readme = Files.readString(Path.of("README.md"));
        example(readme);
        table(readme);
        System.out.println(wrong == 0 ? "README.md is as the class is" : wrong + " faults in README.md");
        if (wrong != 0) System.exit(1);
    }
}
