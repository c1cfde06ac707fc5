import java.io.IOException;
import java.lang.management.ManagementFactory;
import java.lang.reflect.Constructor;
import java.lang.reflect.Field;
import java.lang.reflect.Method;
import java.lang.reflect.Modifier;
import java.nio.charset.StandardCharsets;
import java.nio.file.Files;
import java.nio.file.Path;
import java.util.ArrayList;
import java.util.Arrays;
import java.util.List;
import java.util.Map;
import java.util.Set;
import java.util.TreeMap;
import java.util.TreeSet;
import java.util.regex.Matcher;
import java.util.regex.Pattern;

/** The face of the document, and those rules of ../shared/LANGUAGE.md that can be looked up. */
public final class LanguageTest {
    private LanguageTest() {
    }

    private static List<Class<?>> classes() {
        List<Class<?>> all = new ArrayList<>();
        all.add(Moonmirror.class);
        all.addAll(Arrays.asList(Moonmirror.class.getDeclaredClasses()));
        return all;
    }

    private static String signature(String type, String name, List<String> arguments, List<String> throwing) {
        return type + " " + name + arguments + throwing;
    }

    /** Each line of 'The public face', with the types of its arguments alone. */
    private static Set<String> faceOfDocument() throws IOException {
        String document = Files.readString(Path.of("../shared/DOC.md"), StandardCharsets.UTF_8);
        Pattern line = Pattern.compile("^    public (\\w+) (\\w+)\\(([^)]*)\\)(?: throws ([^;]*))?;$", Pattern.MULTILINE);
        Matcher found = line.matcher(document);
        Set<String> face = new TreeSet<>();
        while (found.find()) {
            List<String> types = new ArrayList<>();
            for (String argument : found.group(3).isEmpty() ? new String[0] : found.group(3).split(", ")) {
                types.add(argument.split(" ")[0]);
            }
            List<String> throwing = found.group(4) == null ? List.of() : List.of(found.group(4).split(", "));
            face.add(signature(found.group(1), found.group(2), types, throwing));
        }
        return face;
    }

    private static List<String> names(Class<?>[] types) {
        List<String> names = new ArrayList<>();
        for (Class<?> type : types) {
            names.add(type.getSimpleName());
        }
        return names;
    }

    private static void checkFace() throws IOException {
        Set<String> face = new TreeSet<>();
        for (Method m : Moonmirror.class.getDeclaredMethods()) {
            if (!Modifier.isPrivate(m.getModifiers())) {
                Checks.due(Modifier.PUBLIC, () -> m.getModifiers());
                face.add(signature(m.getReturnType().getSimpleName(), m.getName(), names(m.getParameterTypes()),
                        names(m.getExceptionTypes())));
            }
        }
        Checks.due(49, () -> face.size());
        Set<String> due = faceOfDocument();
        Checks.due(due, () -> face);
        Checks.due(1, () -> Moonmirror.class.getDeclaredConstructors().length);
        Constructor<?> made = Moonmirror.class.getDeclaredConstructors()[0];
        Checks.due(Modifier.PUBLIC, () -> made.getModifiers());
        Checks.due(0, () -> made.getParameterCount());
        Checks.due(Modifier.PUBLIC | Modifier.FINAL, () -> Moonmirror.class.getModifiers());
    }

    private static void checkMembers() {
        Set<String> faceNames = new TreeSet<>();
        for (Method m : Moonmirror.class.getDeclaredMethods()) {
            if (Modifier.isPublic(m.getModifiers())) {
                faceNames.add(m.getName());
            }
        }
        Checks.due(true, () -> classes().size() <= 12);
        for (Class<?> type : classes()) {
            int fields = 0;
            for (Field f : type.getDeclaredFields()) {
                boolean isStatic = Modifier.isStatic(f.getModifiers());
                fields += isStatic ? 0 : 1;
                Checks.due(true, () -> !isStatic || Modifier.isFinal(f.getModifiers()) && f.getType() == int.class);
                Checks.due(true, () -> type != Moonmirror.class || Modifier.isPrivate(f.getModifiers()));
            }
            int count = fields;
            Checks.due(true, () -> count <= 20);
            for (Method m : type.getDeclaredMethods()) {
                boolean isFace = type == Moonmirror.class && Modifier.isPublic(m.getModifiers());
                Checks.due(isFace, () -> faceNames.contains(m.getName()));
                Checks.due(true, () -> m.getParameterCount() <= 7);
            }
            if (type != Moonmirror.class) {
                Checks.due(true, () -> Modifier.isStatic(type.getModifiers()));
            }
        }
    }

    private static void checkWords() throws IOException {
        String source = Files.readString(Path.of("src/main/java/Moonmirror.java"), StandardCharsets.ISO_8859_1);
        Checks.due(true, () -> source.chars().allMatch(c -> c == '\n' || c >= 32 && c < 127));
        String[] banned = {"->", "::", "\\bcatch\\b", "\\bfinally\\b", "\\bsynchronized\\b", "\\bassert\\b", "Exact\\(",
            "\\bdouble\\b", "\\bfloat\\b", "\\+ \"", "\" \\+", "getMessage", "\\bextends\\b", "\\brecord\\b",
            "System\\.", "Random", "\\bThread\\b", "\\bfor \\([^;)]*:", "\\bpublic static\\b", "\\bstatic \\{"};
        for (String word : banned) {
            Checks.due(false, () -> Pattern.compile(word).matcher(source).find());
        }
        Matcher imports = Pattern.compile("^import (.*);$", Pattern.MULTILINE).matcher(source);
        List<String> imported = new ArrayList<>();
        while (imports.find()) {
            imported.add(imports.group(1));
        }
        Checks.due(List.of("java.util.ArrayList"), () -> imported);
        Matcher thrown = Pattern.compile("throw new (\\w+)\\(").matcher(source);
        Set<String> kinds = new TreeSet<>();
        while (thrown.find()) {
            kinds.add(thrown.group(1));
        }
        Checks.due("[IllegalArgumentException, IllegalStateException, IndexOutOfBoundsException]", () -> kinds.toString());
    }

    /** No method has an empty line in it, so a method is no longer than what stands between two of them. */
    private static void checkLengths() throws IOException {
        String source = Files.readString(Path.of("src/main/java/Moonmirror.java"), StandardCharsets.ISO_8859_1);
        for (String part : source.split("\n\\s*\n")) {
            Checks.due(true, () -> part.lines().count() <= 60);
        }
    }

    /** Which of the program's own methods (and constructors) each of them calls, by their names. */
    private static Map<String, Set<String>> callsOfMethods() throws IOException {
        Map<String, StringBuilder> bodies = new TreeMap<>();
        Pattern begin = Pattern.compile("^( {4}| {8})(?:(?:public|private|static) )*(?:[\\w<>\\[\\]]+ )?(\\w+)\\(.*[^;]$");
        String name = null;
        String end = "";
        for (String line : Files.readAllLines(Path.of("src/main/java/Moonmirror.java"), StandardCharsets.ISO_8859_1)) {
            Matcher found = begin.matcher(line);
            if (name == null && found.find()) {
                name = found.group(2);
                end = found.group(1) + "}";
                bodies.putIfAbsent(name, new StringBuilder());
            } else if (name != null) {
                bodies.get(name).append(line).append('\n');
                name = line.equals(end) ? null : name;
            }
        }
        Map<String, Set<String>> calls = new TreeMap<>();
        Pattern call = Pattern.compile("\\b(\\w+)\\(");
        for (String method : bodies.keySet()) {
            Matcher found = call.matcher(bodies.get(method));
            Set<String> called = new TreeSet<>();
            while (found.find()) {
                called.add(found.group(1));
            }
            called.retainAll(bodies.keySet());
            calls.put(method, called);
        }
        return calls;
    }

    private static int depth(String method, Map<String, Set<String>> calls, List<String> open) {
        Checks.due(false, () -> open.contains(method));
        if (open.contains(method)) {
            return 0;
        }
        open.add(method);
        int deepest = 0;
        for (String called : calls.get(method)) {
            deepest = Math.max(deepest, depth(called, calls, open));
        }
        open.remove(method);
        return deepest + 1;
    }

    /** What is called of the library is what rule 4 lists. */
    private static void checkLibrary() throws IOException {
        String source = Files.readString(Path.of("src/main/java/Moonmirror.java"), StandardCharsets.ISO_8859_1);
        Set<String> own = callsOfMethods().keySet();
        Set<String> listed = Set.of("add", "get", "remove", "size", "isEmpty", "clear", "append", "toString", "abs", "max", "min",
                "bitCount");
        Matcher called = Pattern.compile("\\.(\\w+)\\(").matcher(source);
        while (called.find()) {
            String name = called.group(1);
            Checks.due(name, () -> own.contains(name) || listed.contains(name) ? name : "not listed");
        }
        Matcher made = Pattern.compile("\\bnew (\\w+)[<(\\[]").matcher(source);
        Set<String> classes = new TreeSet<>(names(classes().toArray(new Class<?>[0])));
        classes.addAll(List.of("ArrayList", "StringBuilder", "int", "long", "boolean", "IllegalArgumentException",
                "IllegalStateException", "IndexOutOfBoundsException"));
        while (made.find()) {
            String name = made.group(1);
            Checks.due(name, () -> classes.contains(name) ? name : "not listed");
        }
    }

    /** No recursion, and calls at most eight deep. */
    private static void checkDepth() throws IOException {
        Map<String, Set<String>> calls = callsOfMethods();
        Checks.due(true, () -> calls.size() > 140 && calls.get("digest").contains("withPoints"));
        for (String method : calls.keySet()) {
            Checks.due(true, () -> depth(method, calls, new ArrayList<>()) <= 8);
        }
    }

    private static Moonmirror fullest() {
        Moonmirror x = new Moonmirror();
        for (int e = 0; e < 4; e++) {
            x.ephemeris(e);
            for (int t = 0; t < 5; t++) {
                x.term(e, 4 + 7 * t, 3 * t, e);
            }
        }
        for (int s = 0; s < 4; s++) {
            x.station(s, s, s, s, 9);
            x.give(s, 99);
        }
        for (int m = 0; m < 5; m++) {
            x.mirror(m, 9, 0);
        }
        for (int k = 0; k < 40; k++) {
            x.plant(k % 4, k % 5, 100 * k, k % 3, 13 * k % 61 - 30, 1 + k % 9);
        }
        for (int k = 0; k < 20; k++) {
            x.shoot(k % 4, k % 5, k, k % 4, 60, k);
        }
        return x;
    }

    private interface Repeated {
        void once(Moonmirror x, int k);
    }

    private static long bytesOf512(Repeated call) {
        com.sun.management.ThreadMXBean bean = (com.sun.management.ThreadMXBean) ManagementFactory.getThreadMXBean();
        Moonmirror x = fullest();
        long before = bean.getThreadAllocatedBytes(Thread.currentThread().getId());
        for (int k = 0; k < 512; k++) {
            call.once(x, k);
        }
        return bean.getThreadAllocatedBytes(Thread.currentThread().getId()) - before;
    }

    /** All calls of a run live in one room of 7.3 million fields and elements: none may need much of it. */
    private static void checkRoom() {
        Checks.due(true, () -> bytesOf512((x, k) -> x.digest()) < 500_000);
        Checks.due(true, () -> bytesOf512((x, k) -> x.suspect(0, k % 50)) < 500_000);
        Checks.due(true, () -> bytesOf512((x, k) -> x.plan(0, 0)) < 500_000);
        Checks.due(true, () -> bytesOf512((x, k) -> x.tell(k % 40)) < 1_000_000);
        Checks.due(true, () -> bytesOf512((x, k) -> x.shoot(0, 0, k % 9, 0, 60, k % 100)) < 1_000_000);
    }

    public static void main(String[] args) throws IOException {
        checkFace();
        checkMembers();
        checkWords();
        checkLengths();
        checkLibrary();
        checkDepth();
        checkRoom();
        Checks.end();
    }
}
