import java.io.IOException;
import java.io.PrintWriter;
import java.io.StringWriter;
import java.lang.reflect.Constructor;
import java.lang.reflect.Field;
import java.lang.reflect.Method;
import java.lang.reflect.Modifier;
import java.nio.file.Files;
import java.nio.file.Path;
import java.util.ArrayList;
import java.util.HashMap;
import java.util.List;
import java.util.Map;
import java.util.Set;
import java.util.TreeMap;
import java.util.TreeSet;
import java.util.regex.Matcher;
import java.util.regex.Pattern;
import java.util.spi.ToolProvider;

/** LANGUAGE.md, rules 2 to 12, as far as a test can see them: in the source, in the classes and in what javap shows. */
public final class LanguageTest {
    private static final Path SOURCE = Path.of("src/main/java/ClockKeeper.java");
    private static final Set<String> LIBRARY = Set.of("java/lang/Object.<init>",
        "java/lang/String.length", "java/lang/String.charAt", "java/util/Arrays.fill", "java/lang/System.arraycopy",
        "java/lang/Math.abs", "java/lang/Math.min", "java/lang/Math.max", "java/lang/Math.floorDiv", "java/lang/Math.floorMod",
        "java/lang/Integer.bitCount", "java/lang/IllegalArgumentException.<init>", "java/lang/IllegalStateException.<init>",
        "java/util/NoSuchElementException.<init>");
    private static final Pattern CALLED = Pattern.compile("// (?:Interface)?Method (\\S+?):");
    private static final Pattern HEADER = Pattern.compile("  \\S.*?([\\w$.]+)\\(.*");

    private final Map<String, Set<String>> calls = new TreeMap<>();
    private final Map<String, Set<String>> reached = new HashMap<>();
    private final Map<String, Integer> depths = new HashMap<>();

    private LanguageTest() {
    }

    public static void main(String[] args) throws IOException {
        String source = Files.readString(SOURCE);
        words(source);
        methodLines(source);
        for (Class<?> c : classes()) {
            fields(c);
            parameters(c);
        }
        LanguageTest code = new LanguageTest();
        code.look();
        code.library();
        code.depth();
        Due.end();
    }

    private static List<Class<?>> classes() {
        List<Class<?>> all = new ArrayList<>(List.of(ClockKeeper.class.getDeclaredClasses()));
        all.add(ClockKeeper.class);
        return all;
    }

    // rules 4 and 6: what must not stand there at all
    private static void words(String source) {
        String bare = source.replaceAll("(?s)/\\*.*?\\*/", "").replaceAll("//.*", "");
        String[] banned = {"\\b(finally|synchronized|assert|volatile|native)\\b", "Exact\\b", "\\bhashCode\\b",
            "\\bcatch \\((Null|Array|Negative|ClassCast)\\w+", "\\bcatch \\((Exception|RuntimeException|Throwable|Error)\\b"};
        for (String b : banned) {
            Due.is("the source has " + b, Pattern.compile(b).matcher(bare).find() ? 1 : 0, 0);
        }
        Matcher imports = Pattern.compile("\\bimport ([\\w.]+);").matcher(bare);
        while (imports.find()) {
            String name = imports.group(1);
            Due.is("imports " + name, name.matches("java\\.util\\.(Arrays|ArrayList|List|Iterator|NoSuchElementException)") ? 1 : 0, 1);
        }
    }

    // rule 11: "Methods stay short (some sixty lines)"
    private static void methodLines(String source) {
        String[] lines = source.split("\n");
        int methods = 0;
        for (int i = 0; i < lines.length; i++) {
            Matcher begin = Pattern.compile("( {4}| {8})[^ ].*[)].*\\{").matcher(lines[i]);
            Matcher second = Pattern.compile("( {4}| {8}) {8}throws .*\\{").matcher(lines[i]);
            if (begin.matches() || second.matches()) {
                String end = (begin.matches() ? begin.group(1) : second.group(1)) + "}";
                int last = i;
                while (last < lines.length && !lines[last].equals(end)) {
                    last++;
                }
                Due.is("lines of " + lines[i].trim() + " " + (last - i), last - i <= 60 ? 1 : 0, 1);
                methods++;
            }
        }
        Due.is("methods were found", methods > 100 ? 1 : 0, 1);
    }

    // rules 5 and 11: static fields are final, and few are not constants
    private static void fields(Class<?> c) {
        int own = 0;
        for (Field f : c.getDeclaredFields()) {
            if (Modifier.isStatic(f.getModifiers())) {
                Due.is(f + " is final", Modifier.isFinal(f.getModifiers()) ? 1 : 0, 1);
            } else {
                own++;
            }
        }
        Due.is("fields of " + c + " " + own, own <= 20 ? 1 : 0, 1);
    }

    // rule 11: "A method takes at most seven parameters."
    private static void parameters(Class<?> c) {
        for (Method m : c.getDeclaredMethods()) {
            Due.is("parameters of " + m, m.getParameterCount() <= 7 ? 1 : 0, 1);
        }
        for (Constructor<?> m : c.getDeclaredConstructors()) {
            Due.is("parameters of " + m, m.getParameterCount() <= 7 ? 1 : 0, 1);
        }
    }

    private static String shown(String name) {
        StringWriter out = new StringWriter();
        ToolProvider javap = ToolProvider.findFirst("javap").orElseThrow();
        javap.run(new PrintWriter(out), new PrintWriter(out), "-p", "-c", "-cp", System.getProperty("java.class.path"), name);
        return out.toString();
    }

    private void look() {
        for (Class<?> c : classes()) {
            String code = shown(c.getName());
            // a lambda, a method reference, texts joined by +, what a record brings along
            Due.is(c + " has an invokedynamic", code.contains("invokedynamic") ? 1 : 0, 0);
            String method = "";
            for (String line : code.split("\n")) {
                Matcher header = HEADER.matcher(line);
                Matcher called = CALLED.matcher(line);
                if (header.matches()) {
                    String name = header.group(1);
                    method = c.getName() + "." + (name.equals(c.getName()) ? "<init>" : name);
                    calls.putIfAbsent(method, new TreeSet<>());
                } else if (called.find()) {
                    String name = called.group(1).replace("\"", "");
                    calls.get(method).add(name.contains(".") ? name : c.getName() + "." + name);
                }
            }
        }
        Due.is("methods were seen", calls.size() > 100 ? 1 : 0, 1);
    }

    // rule 4: "only what stands here"
    private void library() {
        for (Map.Entry<String, Set<String>> e : calls.entrySet()) {
            for (String name : e.getValue()) {
                Due.is(e.getKey() + " calls " + name, name.startsWith("ClockKeeper") || LIBRARY.contains(name) ? 1 : 0, 1);
            }
        }
    }

    // rule 11: "calls that are no recursion go at most eight deep"; methods that call one another count as one
    private void depth() {
        for (String m : calls.keySet()) {
            reached.put(m, new TreeSet<>());
            reach(m, m);
        }
        for (String m : calls.keySet()) {
            Due.is("calls of " + m + " go deep: " + depthOf(m), depthOf(m) <= 8 ? 1 : 0, 1);
        }
    }

    private void reach(String from, String at) {
        for (String next : calls.getOrDefault(at, Set.of())) {
            if (calls.containsKey(next) && reached.get(from).add(next)) {
                reach(from, next);
            }
        }
    }

    private boolean recur(String a, String b) {
        return a.equals(b) || reached.get(a).contains(b) && reached.get(b).contains(a);
    }

    private int depthOf(String m) {
        Integer known = depths.get(m);
        if (known != null) {
            return known;
        }
        int deepest = 0;
        for (String other : calls.keySet()) {
            for (String next : recur(m, other) ? calls.get(other) : Set.<String>of()) {
                if (calls.containsKey(next) && !recur(m, next)) {
                    deepest = Math.max(deepest, depthOf(next));
                }
            }
        }
        depths.put(m, deepest + 1);
        return deepest + 1;
    }
}
