import java.lang.reflect.InvocationTargetException;
import java.lang.reflect.Method;
import java.lang.reflect.Modifier;
import java.nio.charset.StandardCharsets;
import java.nio.file.DirectoryStream;
import java.nio.file.Files;
import java.nio.file.Path;
import java.util.ArrayList;
import java.util.Comparator;
import java.util.List;
import java.util.Map;
import java.util.Set;
import java.util.TreeMap;
import java.util.TreeSet;
import java.util.regex.Matcher;
import java.util.regex.Pattern;

/**
 * Runs the edge tests under src/test/edges: one for each sentence of the document that names a boundary
 * case. Each test bears its promise's number in its name (p10..) and the sentence in the comment ahead of
 * it; this looks that the sentence stands in the document, that each promise has tests, and that each
 * refusal that a promise tells was due somewhere in them.
 */
public final class EdgesTest {
    private static final Class<?>[] EDGES = {
        EdgesOfTheString.class, EdgesOfTheText.class, EdgesOfHoursOn.class, EdgesOfTools.class,
        EdgesOfCuts.class, EdgesOfSorts.class, EdgesOfBoxes.class, EdgesOfShelves.class,
    };
    private static final Pattern NAME = Pattern.compile("p(\\d+)[A-Z]\\w*");
    private static final Pattern TOLD = Pattern.compile(
            "((?: {4}// .*\n)*) {4}static void (p\\d+\\w+)\\(\\) \\{");
    private static final Pattern COMMENT = Pattern.compile("Promise (\\d+): \"(.*)\"");
    private static final int PROMISES = 42;

    public static void main(String[] args) throws Exception {
        String document = oneLine(Files.readString(Path.of("../shared/DOC.md"), StandardCharsets.UTF_8));
        Map<Integer, Integer> tests = new TreeMap<>();
        allFilesAreRun();
        for (Class<?> edges : EDGES) {
            Set<String> quoted = quoting(edges, document);
            for (Method test : testsOf(edges)) {
                int promise = promiseOf(test.getName());
                tests.merge(promise, 1, Integer::sum);
                if (!quoted.contains(test.getName())) {
                    Edges.fault(edges.getName() + "." + test.getName() + " quotes no sentence ahead of it");
                }
                run(test, promise);
            }
        }
        for (int promise = 1; promise <= PROMISES; promise++) {
            if (!tests.containsKey(promise)) {
                Edges.fault("promise " + promise + " has no edge test");
            }
            refusalsAreSeen(promise, document);
        }
        int all = tests.values().stream().mapToInt(Integer::intValue).sum();
        System.out.println(all + " edges, " + Edges.checks() + " checks, " + Edges.wrong() + " wrong");
        if (Edges.wrong() != 0) {
            System.exit(1);
        }
    }

    private static void allFilesAreRun() throws Exception {
        Set<String> run = new TreeSet<>(Set.of("Edges.java"));
        for (Class<?> edges : EDGES) {
            run.add(edges.getName() + ".java");
        }
        Set<String> found = new TreeSet<>();
        try (DirectoryStream<Path> files = Files.newDirectoryStream(Path.of("src/test/edges"), "*.java")) {
            files.forEach(file -> found.add(file.getFileName().toString()));
        }
        if (!found.equals(run)) {
            Edges.fault("src/test/edges holds " + found + ", run are " + run);
        }
    }

    private static String oneLine(String text) {
        return text.replaceAll("\\s+", " ");
    }

    private static int promiseOf(String name) {
        Matcher m = NAME.matcher(name);
        return m.matches() ? Integer.parseInt(m.group(1)) : 0;
    }

    private static List<Method> testsOf(Class<?> edges) {
        List<Method> tests = new ArrayList<>();
        for (Method m : edges.getDeclaredMethods()) {
            boolean isTest = promiseOf(m.getName()) > 0 && m.getParameterCount() == 0;
            if (isTest && Modifier.isStatic(m.getModifiers())) {
                tests.add(m);
            }
        }
        tests.sort(Comparator.<Method>comparingInt(m -> promiseOf(m.getName())).thenComparing(Method::getName));
        return tests;
    }

    private static void run(Method test, int promise) throws Exception {
        int before = Edges.checks();
        Edges.begin(promise, test.getName());
        test.setAccessible(true);
        try {
            test.invoke(null);
        } catch (InvocationTargetException e) {
            e.getCause().printStackTrace(System.out);
            Edges.fault(test.getName() + " threw " + e.getCause());
        }
        if (Edges.checks() == before) {
            Edges.fault(test.getName() + " checks nothing");
        }
    }

    /** The tests of a file whose comment tells their own promise and a sentence of the document. */
    private static Set<String> quoting(Class<?> edges, String document) throws Exception {
        Path file = Path.of("src/test/edges/" + edges.getName() + ".java");
        String source = Files.readString(file, StandardCharsets.UTF_8).replace("\r", "");
        Set<String> quoting = new TreeSet<>();
        Matcher told = TOLD.matcher(source);
        while (told.find()) {
            Matcher comment = COMMENT.matcher(oneLine(told.group(1).replace("    // ", " ")).trim());
            if (!comment.find() || Integer.parseInt(comment.group(1)) != promiseOf(told.group(2))) {
                continue;
            }
            if (document.contains(comment.group(2))) {
                quoting.add(told.group(2));
            } else {
                Edges.fault(told.group(2) + ": the document does not say \"" + comment.group(2) + "\"");
            }
        }
        return quoting;
    }

    /** Each refusal that stands in a promise was due in one of its tests. */
    private static void refusalsAreSeen(int promise, String document) {
        int from = document.indexOf("## Promise " + promise + ":");
        int to = document.indexOf("## ", from + 3);
        if (from < 0 || to < 0) {
            Edges.fault("the document has no promise " + promise);
            return;
        }
        Set<Long> answers = Edges.ANSWERS.getOrDefault(promise, Set.of());
        Matcher code = Pattern.compile("-\\d+").matcher(document.substring(from, to));
        while (code.find()) {
            long refusal = Long.parseLong(code.group());
            if (!answers.contains(refusal) && !answers.contains(1000000000L - refusal)) {
                Edges.fault("promise " + promise + ": no test in which " + refusal + " is due");
            }
        }
    }
}
