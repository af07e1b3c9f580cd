import java.lang.reflect.Constructor;
import java.lang.reflect.Field;
import java.lang.reflect.Method;
import java.lang.reflect.Modifier;
import java.nio.file.Files;
import java.nio.file.Path;
import java.util.ArrayList;
import java.util.List;
import java.util.Set;
import java.util.TreeSet;
import java.util.regex.Matcher;
import java.util.regex.Pattern;

/** Holds the class against 'The public face' of DOC.md and against those rules of LANGUAGE.md that can be counted. */
public final class LanguageTest {
    private static final Path DOC = Path.of("../shared/DOC.md");
    private static final Path SOURCE = Path.of("src/main/java/RiverSteamers.java");
    private static int wrong = 0;

    private static void need(boolean so, String what) {
        if (!so) {
            wrong++;
            System.out.println(what);
        }
    }

    private static String signature(Method m) {
        StringBuilder b = new StringBuilder("public ");
        if (Modifier.isStatic(m.getModifiers())) b.append("static ");
        b.append(m.getReturnType().getName()).append(' ').append(m.getName()).append('(');
        for (Class<?> p : m.getParameterTypes()) b.append(p.getName()).append(',');
        return b.append(')').toString();
    }

    private static Set<String> promisedMethods() throws Exception {
        Set<String> all = new TreeSet<>();
        Matcher m = Pattern.compile("(?m)^    public int (\\w+)\\((.*)\\);$").matcher(Files.readString(DOC));
        while (m.find()) {
            StringBuilder b = new StringBuilder("public int " + m.group(1) + "(");
            for (String p : m.group(2).split(", ")) if (!p.isEmpty()) b.append(p.split(" ")[0]).append(',');
            all.add(b.append(')').toString());
        }
        return all;
    }

    private static void face() throws Exception {
        Class<?> c = RiverSteamers.class;
        need(c.getModifiers() == (Modifier.PUBLIC | Modifier.FINAL), "the class is not just public and final");
        Set<String> has = new TreeSet<>();
        for (Method m : c.getDeclaredMethods()) {
            if (!Modifier.isPrivate(m.getModifiers())) has.add(signature(m));
        }
        Set<String> promised = promisedMethods();
        need(promised.size() == 41, "DOC.md was read otherwise: " + promised.size() + " methods");
        need(has.equals(promised), "the face is " + has + ", promised is " + promised);
        for (Field f : c.getDeclaredFields()) {
            boolean constant = f.getName().equals("NONE") || f.getName().equals("NO");
            need(Modifier.isPrivate(f.getModifiers()) != constant,
                "field " + f.getName() + " is not as the face has it");
        }
        Constructor<?>[] all = c.getDeclaredConstructors();
        need(all.length == 1 && Modifier.isPublic(all[0].getModifiers()),
            "the constructors are not as the face has them");
    }

    private static void members() {
        Set<String> open = new TreeSet<>();
        for (Method m : RiverSteamers.class.getDeclaredMethods()) {
            if (Modifier.isPublic(m.getModifiers())) open.add(m.getName());
        }
        List<Class<?>> all = new ArrayList<>(List.of(RiverSteamers.class.getDeclaredClasses()));
        need(all.size() <= 12, "more than twelve classes inside");
        for (Class<?> inner : all) need(Modifier.isStatic(inner.getModifiers()), inner + " is not static");
        all.add(RiverSteamers.class);
        for (Class<?> c : all) {
            int fields = 0;
            for (Field f : c.getDeclaredFields()) {
                boolean fixed = Modifier.isStatic(f.getModifiers());
                need(!fixed || Modifier.isFinal(f.getModifiers()), "static " + f + " is not final");
                fields += fixed ? 0 : 1;
            }
            need(fields <= 20, c + " has " + fields + " fields");
            for (Method m : c.getDeclaredMethods()) {
                boolean hidden = Modifier.isPrivate(m.getModifiers());
                need(!hidden || !open.contains(m.getName()), "private " + m + " bears the name of a public method");
                need(m.getParameterCount() <= 7, m + " takes too many parameters");
            }
        }
    }

    private static void words() throws Exception {
        String bare = bareSource();
        String[] forbidden = {
            "\\bthrow\\b", "\\bthrows\\b", "\\btry\\b", "\\bcatch\\b", "\\bsynchronized\\b", "\\bassert\\b",
            "->", "::", "\\bpackage\\b", "\\bprotected\\b", "\\bObject\\b", "\\bSystem\\.(?!arraycopy\\b)",
            "\\bArrays\\.(?!(copyOf|copyOfRange|fill)\\b)", "\\w+Exact\\b", "\\bstatic\\s*\\{", "\\bequals\\b",
            "\\bhashCode\\b", "\\btoString\\b", "\\bvar\\b", "\\bdouble\\b", "\\bfloat\\b",
        };
        for (String word : forbidden) {
            Matcher m = Pattern.compile(word).matcher(bare);
            need(!m.find(), "the source has " + word);
        }
        Matcher imports = Pattern.compile("(?m)^import (.*);$").matcher(bare);
        while (imports.find()) need(imports.group(1).equals("java.util.Arrays"), "imports " + imports.group(1));
        need(bare.chars().allMatch(c -> c < 128), "the source has signs above 127");
    }

    private static void lengths() throws Exception {
        List<String> lines = Files.readAllLines(SOURCE);
        int begin = -1;
        String end = "";
        for (int i = 0; i < lines.size(); i++) {
            String line = lines.get(i);
            if (begin < 0 && line.matches(" {4,8}(public|private)[^=;]*\\).* \\{")) {
                begin = i;
                end = line.replaceAll("\\S.*", "") + "}";
            } else if (begin >= 0 && line.equals(end)) {
                need(i - begin < 60, "line " + (begin + 1) + ": a method of " + (i - begin + 1) + " lines");
                begin = -1;
            }
            need(line.length() <= 120, "line " + (i + 1) + " is long");
        }
    }

    private static String bareSource() throws Exception {
        return Files.readString(SOURCE).replaceAll("//.*", "").replaceAll("(?s)/\\*.*?\\*/", "");
    }

    /** Rule 8 names, of methods that call themselves on the same object, the private static ones alone. */
    private static void recursion() throws Exception {
        Matcher m = Pattern.compile(
            "(?ms)^( {4,8})((?:public|private)[^=;\\n]*?(\\w+)\\([^)]*\\)) \\{\\n(.*?)^\\1\\}").matcher(bareSource());
        int methods = 0;
        int callThemselves = 0;
        while (m.find()) {
            methods++;
            boolean callsItself = Pattern.compile("(?<![.\\w])" + m.group(3) + "\\(").matcher(m.group(4)).find();
            if (!callsItself) continue;
            callThemselves++;
            need(m.group(2).startsWith("private static "), m.group(2) + " calls itself, but is not private static");
            need(m.group(2).contains("int deep"), m.group(2) + " calls itself and carries no depth");
        }
        need(methods > 100, "only " + methods + " methods were read");
        need(callThemselves == 1, callThemselves + " methods call themselves, not the acts alone");
    }

    /** Rule 4 has System.arraycopy and Arrays.fill over arrays of numbers. */
    private static void rowsOfNumbers() throws Exception {
        String bare = bareSource();
        Matcher m = Pattern.compile("(?:System\\.arraycopy|Arrays\\.\\w+)\\((?:\\w+\\.)*(\\w+),").matcher(bare);
        int calls = 0;
        while (m.find()) {
            calls++;
            boolean numbers = Pattern.compile("\\bint\\[\\] " + m.group(1) + "\\b").matcher(bare).find();
            need(numbers, m.group() + " ..: " + m.group(1) + " is no row of numbers");
        }
        need(calls > 5, "only " + calls + " calls on rows were read");
    }

    public static void main(String[] args) throws Exception {
        face();
        members();
        words();
        lengths();
        recursion();
        rowsOfNumbers();
        System.out.println(wrong == 0 ? "face and language are kept" : wrong + " rules are not kept");
        if (wrong != 0) System.exit(1);
    }
}
