import java.lang.reflect.Method;
import java.lang.reflect.Modifier;
import java.nio.charset.StandardCharsets;
import java.nio.file.Files;
import java.nio.file.Path;
import java.util.Arrays;
import java.util.List;
import java.util.Set;
import java.util.TreeSet;
import java.util.regex.Matcher;
import java.util.regex.Pattern;

/** The face is just the document's, and the source keeps to the rules that can be read off it. */
public final class FaceTest {
    private static final String[] FACE = {
        "int string(int)", "int bulb(int,int)", "int hangs(int)", "int wears(int,int)", "int breaks(int)",
        "int spares(int)", "int twist(int)", "int use(int,int,int)", "int hours(int)", "int then(int,int)",
        "int wornThen(int,int)", "int goes(int)", "int dark()", "int lights(int)",
        "int tool(int,int,int,int)", "int halves(int,int,int)", "long mean(int,int,int)",
        "int order(int,int)", "int suspects(int,int)", "int buy(int)", "int light(int,int)",
        "int split(int,int)", "int beat(int,int,int)", "int end(int)", "int whatIs(int,int,int)",
        "int wornFrom(int,int,int)", "long frost(int,int,int,int)", "long share(int,int)",
        "int forged(int)", "int judge(int)", "int winters(int,int,int)", "int image()", "int restore()",
        "int count(int)", "int keep(int,int,int,int)", "int row(int,int,int)", "int put(int,int,int)",
        "long element(int,int) throws IllegalArgumentException,IllegalStateException",
        "int copy(int,int,int,int,int)", "int cost(int)", "int toss(int)",
    };
    private static final String[] OUTLAWS = {
        "import ", "package ", "->", "::", "\\bcatch\\b", "\\btry\\b", "\\bfinally\\b", "\\bassert\\b",
        "\\bsynchronized\\b", "\\bThread\\b", "\\bRandom\\b", "\\bSystem\\.(?!arraycopy\\b)", "\\bvar\\b",
        "\\bString\\b", "\\bObject\\b", "\\bByte\\.", "\\bShort\\.", "\\bCharacter\\.", "Exact\\(",
        "\\binstanceof\\b", "\\bnull\\b", "\\bwhile \\(true\\)", "\\bfor \\(;;",
    };

    private static int wrong = 0;

    private static void so(String what, boolean so) {
        if (!so) {
            wrong++;
            System.out.println("not so: " + what);
        }
    }

    public static void main(String[] args) throws Exception {
        theFace();
        theInside();
        String source = Files.readString(Path.of("src/main/java/OneIsOut.java"), StandardCharsets.US_ASCII);
        theSource(source.replaceAll("(?s)/\\*.*?\\*/", " ").replaceAll("//[^\n]*", " "));
        System.out.println(wrong == 0 ? "the face is as told" : wrong + " wrong");
        if (wrong != 0) {
            System.exit(1);
        }
    }

    private static void theFace() {
        int modifiers = OneIsOut.class.getModifiers();
        so("public final", Modifier.isPublic(modifiers) && Modifier.isFinal(modifiers));
        so("one constructor", OneIsOut.class.getDeclaredConstructors().length == 1);
        so("public constructor", OneIsOut.class.getConstructors().length == 1);
        so("no fields to be seen", Arrays.stream(OneIsOut.class.getDeclaredFields())
                .allMatch(f -> Modifier.isPrivate(f.getModifiers())));
        Set<String> found = new TreeSet<>();
        Set<String> names = new TreeSet<>();
        for (Method m : OneIsOut.class.getDeclaredMethods()) {
            if (Modifier.isPublic(m.getModifiers())) {
                found.add(told(m));
                names.add(m.getName());
            } else {
                so(m + " is private", Modifier.isPrivate(m.getModifiers()));
            }
        }
        so("the methods: " + found, found.equals(new TreeSet<>(List.of(FACE))));
        for (Class<?> c : OneIsOut.class.getDeclaredClasses()) {
            for (Method m : c.getDeclaredMethods()) {
                so(m + " has a name of the face", !names.contains(m.getName()));
            }
        }
        for (Method m : OneIsOut.class.getDeclaredMethods()) {
            so(m + " has a name of the face", Modifier.isPublic(m.getModifiers()) || !names.contains(m.getName()));
        }
    }

    private static String told(Method m) {
        String told = m.getReturnType() + " " + m.getName() + "(";
        told += String.join(",", Arrays.stream(m.getParameterTypes()).map(Class::toString).toList()) + ")";
        List<String> thrown = Arrays.stream(m.getExceptionTypes()).map(Class::getSimpleName).toList();
        return thrown.isEmpty() ? told : told + " throws " + String.join(",", thrown);
    }

    private static void theInside() {
        Class<?>[] inside = OneIsOut.class.getDeclaredClasses();
        so("some twelve classes", inside.length + 1 <= 12);
        for (Class<?> c : inside) {
            int modifiers = c.getModifiers();
            so(c + " is static", Modifier.isStatic(modifiers));
            so(c + " is not public", !Modifier.isPublic(modifiers) && !Modifier.isProtected(modifiers));
            long fields = Arrays.stream(c.getDeclaredFields()).filter(f -> !Modifier.isStatic(f.getModifiers())).count();
            so(c + " has some twenty fields", fields <= 20);
            for (Method m : c.getDeclaredMethods()) {
                so(m + " takes seven at most", m.getParameterCount() <= 7);
            }
        }
    }

    private static void theSource(String code) {
        for (String outlaw : OUTLAWS) {
            so("no " + outlaw, !Pattern.compile(outlaw).matcher(code.replaceAll("\"[^\"]*\"", "")).find());
        }
        // What a run makes is counted, so objects are made with the object alone, or thrown.
        Matcher made = Pattern.compile("(?m)^.*\\bnew\\b.*$").matcher(code);
        while (made.find()) {
            String line = made.group().trim();
            boolean field = line.startsWith("private final ") || line.startsWith("final ");
            boolean shelf = line.equals("shelves[d] = new Shelf();");
            so("made at a call: " + line, field || shelf || line.startsWith("throw new "));
        }
        for (String method : code.split("\n {4,8}}\n")) {
            so("a method of sixty lines at most:" + method, method.trim().split("\n").length <= 60);
        }
    }
}
