import java.io.IOException;
import java.io.UncheckedIOException;
import java.lang.reflect.InvocationTargetException;
import java.lang.reflect.Method;
import java.lang.reflect.Modifier;
import java.nio.file.Files;
import java.nio.file.Path;
import java.util.Arrays;
import java.util.Comparator;

/**
 * What the tests of boundaries share. A test is a static method, not private, without parameters, that begins by
 * says(..), the words of the document that it holds the class against; runAll runs every such method of a class.
 */
abstract class Bench {
    static final int NO = -1000;
    static final int LEAST = Integer.MIN_VALUE;
    static final int MOST = Integer.MAX_VALUE;
    static final boolean UP = false;
    static final boolean DOWN = true;
    static Counted x;

    /** The document from its terms on, each run of blanks and line ends as one blank. */
    private static final String document = read();
    private static final String HEADINGS =
        "## Promise \\d+: \\w+|`int \\w+\\(.*?\\)`:|```(text)?|==== \\d";
    private static final int MOST_LEFT_OUT = 20;
    private static final boolean[] held = new boolean[document.length()];
    private static String test = "";
    private static boolean quoted = false;
    private static int wrong = 0;

    private static String read() {
        try {
            String all = Files.readString(Path.of("../shared/DOC.md")).replaceAll("\\s+", " ");
            return all.substring(all.indexOf("==== 1"), all.indexOf("## Not promised"));
        } catch (IOException e) {
            throw new UncheckedIOException(e);
        }
    }

    static void says(String words) {
        quoted = true;
        int at = document.indexOf(words);
        if (at < 0) fault("the document has no words \"" + words + "\"");
        for (; at >= 0; at = document.indexOf(words, at + 1)) Arrays.fill(held, at, at + words.length(), true);
    }

    static void fault(String what) {
        wrong++;
        if (wrong <= 40) System.out.println(test + ": " + what);
    }

    static void due(int got, int want) {
        if (got == want) return;
        StackTraceElement[] calls = new Throwable().getStackTrace();
        int at = 0;
        while (at < calls.length - 1 && !calls[at].getMethodName().equals(test)) at++;
        fault("line " + calls[at].getLineNumber() + " answered " + got + ", due is " + want);
    }

    /** A call that is done: its answer, and STATUS 0. */
    static void done(int got, int want) {
        due(got, want);
        due(x.status(), 0);
    }

    /** A call that is refused: -1, and its STATUS. */
    static void no(int status, int got) {
        due(got, -1);
        due(x.status(), status);
    }

    static void fresh() {
        x = new Counted();
    }

    /** Stretches of these kinds, each 4 long and 10 deep. */
    static void river(int... kinds) {
        fresh();
        for (int kind : kinds) x.stretch(kind, 4, 10);
    }

    /** A boat that draws hull, with more room and wood than it needs. */
    static int boat(int landing, int hull) {
        return x.boat(landing, hull, 999, 99);
    }

    static void go(int n) {
        for (int left = n; left > 0; left -= 200) x.go(Math.min(left, 200));
    }

    static void goTo(int quarter) {
        go(quarter - x.count(5));
    }

    /** The numbers nearest to a .. b outside it, and the least and the largest int. */
    static int[] outside(int a, int b) {
        return new int[] {a - 1, b + 1, LEAST, MOST};
    }

    static void runAll(Class<?> tests) throws Exception {
        Method[] all = tests.getDeclaredMethods();
        Arrays.sort(all, Comparator.comparing(Method::getName));
        int ran = 0;
        for (Method m : all) {
            boolean hidden = m.isSynthetic() || Modifier.isPrivate(m.getModifiers());
            if (hidden || m.getParameterCount() != 0) continue;
            ran++;
            run(m);
        }
        System.out.println(tests.getName() + ": " + ran + " tests");
        if (ran == 0) fault("no test was found in " + tests.getName());
    }

    private static void run(Method m) throws Exception {
        test = m.getName();
        quoted = false;
        fresh();
        try {
            m.invoke(null);
        } catch (InvocationTargetException e) {
            fault("threw " + e.getCause());
            e.getCause().printStackTrace(System.out);
        }
        if (!quoted) fault("quotes nothing of the document");
    }

    /** No run of words of the document, but for headings and signatures, is quoted by no test. */
    static void needAllHeld() {
        test = "the tests together";
        StringBuilder open = new StringBuilder();
        for (int i = 0; i <= document.length(); i++) {
            if (i < document.length() && !held[i]) {
                open.append(document.charAt(i));
                continue;
            }
            String words = open.toString().replaceAll(HEADINGS, "").strip();
            if (words.length() > MOST_LEFT_OUT) fault("no test quotes \"" + words + "\"");
            open.setLength(0);
        }
    }

    static void end() {
        System.out.println(wrong == 0 ? "all answers are as the document has them" : wrong + " faults");
        if (wrong != 0) System.exit(1);
    }
}
