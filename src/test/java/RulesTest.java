import java.io.File;
import java.io.PrintWriter;
import java.io.StringWriter;
import java.nio.file.Files;
import java.nio.file.Path;
import java.util.ArrayList;
import java.util.HashMap;
import java.util.List;
import java.util.Map;
import java.util.Set;
import java.util.TreeSet;
import java.util.regex.Matcher;
import java.util.regex.Pattern;
import java.util.spi.ToolProvider;

/** What of LANGUAGE.md can be seen in the source and in the class files: run it from the project's directory. */
public final class RulesTest {
    private static final Checks CHECKS = new Checks("RulesTest");
    private static final Set<String> LIBRARY = Set.of(
        "java/lang/Object.\"<init>\"", "java/util/NoSuchElementException.\"<init>\"",
        "java/lang/IllegalArgumentException.\"<init>\"", "java/util/Arrays.fill", "java/util/Arrays.copyOf",
        "java/lang/Math.max", "java/lang/Math.min", "java/lang/Integer.bitCount");
    private static final int DEEPEST = 8;

    private final Map<String, Set<String>> calls = new HashMap<>();
    private final Map<String, Integer> depths = new HashMap<>();

    public static void main(String[] args) throws Exception {
        Path file = Path.of("src/main/java/PrimaryParts.java");
        String source = bare(Files.readString(file));
        words(source);
        methods(source);
        RulesTest graph = new RulesTest();
        graph.read();
        graph.check();
        CHECKS.finish();
    }

    /** Without comments and without what stands in quotes. */
    private static String bare(String source) {
        return source.replaceAll("(?s)/\\*.*?\\*/", "").replaceAll("//[^\n]*", "")
            .replaceAll("\"(\\\\.|[^\"\\\\])*\"", "\"\"").replaceAll("'(\\\\.|[^'\\\\])'", "' '");
    }

    private static void words(String source) {
        String[] forbidden = {
            "->", "::", "\\bfinally\\b", "\\bsynchronized\\b", "\\bassert\\b", "\\btry\\b", "\\bcatch\\b",
            "\\bpackage\\b", "static\\s*\\{", "Exact\\b", "\\bvar\\b", "\\bdouble\\b", "\\bfloat\\b", "\\.equals\\(",
            "\\[\\]\\s*\\[\\]", "\\bprotected\\b", "\\bwhile\\s*\\(true\\)", "for\\s*\\(;;\\)",
        };
        for (String word : forbidden) {
            CHECKS.due("the source has " + word, false, () -> Pattern.compile(word).matcher(source).find());
        }
        Matcher imports = Pattern.compile("import ([\\w.]+);").matcher(source);
        while (imports.find()) {
            String name = imports.group(1);
            CHECKS.due("import " + name, true,
                () -> name.equals("java.util.Arrays") || name.equals("java.util.NoSuchElementException"));
        }
        Matcher classes = Pattern.compile("\\bclass \\w+").matcher(source);
        int size = 0;
        while (classes.find()) {
            size++;
        }
        int classesFound = size;
        CHECKS.due("classes " + size, true, () -> classesFound <= 12);
        Matcher statics = Pattern.compile("static (?!final|int |boolean |void |Ideal )\\w+").matcher(source);
        CHECKS.due("static fields are final", false, statics::find);
    }

    /** Methods stay short and take at most seven parameters; names of the face are the face's alone. */
    private static void methods(String source) {
        Set<String> face = new TreeSet<>();
        Matcher open = Pattern.compile("public \\w+ (\\w+)\\(").matcher(source);
        while (open.find()) {
            face.add(open.group(1));
        }
        CHECKS.due("methods of the face", 23, face::size);
        Matcher each = Pattern.compile("\n( +)((?:\\w+(?:\\[\\])? )*)(\\w+)\\(([^()]*)\\)[^;{}]*\\{").matcher(source);
        int found = 0;
        while (each.find()) {
            String name = each.group(3);
            if (Set.of("if", "for", "while", "switch").contains(name)) {
                continue;
            }
            found++;
            String[] lines = source.substring(each.start() + 1).split("\n");
            int length = 0;
            while (!lines[length].equals(each.group(1) + "}")) {
                length++;
            }
            int longest = length + 1;
            CHECKS.due(name + " has " + longest + " lines", true, () -> longest <= 60);
            int commas = each.group(4).split(",").length;
            CHECKS.due(name + " has " + commas + " parameters", true, () -> commas <= 7);
            boolean isPublic = each.group(2).contains("public");
            CHECKS.due(name + " bears a name of the face", false, () -> !isPublic && face.contains(name));
        }
        int all = found;
        CHECKS.due("methods are found", true, () -> all > 100);
    }

    private void read() {
        File[] files = new File(System.getProperty("java.class.path")).listFiles(
            (dir, name) -> name.startsWith("PrimaryParts") && !name.startsWith("PrimaryPartsRuns")
                && name.endsWith(".class"));
        List<String> arguments = new ArrayList<>(List.of("-c", "-p"));
        for (File file : files) {
            arguments.add(file.getPath());
        }
        StringWriter out = new StringWriter();
        ToolProvider.findFirst("javap").orElseThrow().run(
            new PrintWriter(out), new PrintWriter(System.out), arguments.toArray(new String[0]));
        String type = "";
        String method = "";
        for (String line : out.toString().split("\n")) {
            Matcher ofType = Pattern.compile("\\bclass ([\\w$]+) \\{").matcher(line);
            Matcher ofMethod = Pattern.compile("^  \\S.*?([\\w$]+)\\(.*;$").matcher(line);
            Matcher ofCall = Pattern.compile("invoke\\w+.*(?:Interface)?Method (\\S+):").matcher(line);
            if (ofType.find()) {
                type = ofType.group(1);
            } else if (line.contains("invokedynamic") || line.contains("athrow") && method.endsWith("<init>")) {
                CHECKS.same(method, "nothing of the kind", line);
            } else if (ofMethod.find()) {
                String name = ofMethod.group(1).equals(type) ? "\"<init>\"" : ofMethod.group(1);
                method = type + "." + name;
                calls.putIfAbsent(method, new TreeSet<>());
            } else if (ofCall.find()) {
                String callee = ofCall.group(1);
                callee = callee.contains(".") ? callee : type + "." + callee;
                calls.get(method).add(callee);
            }
        }
    }

    private void check() {
        CHECKS.due("methods are read", true, () -> calls.size() > 100);
        int deepest = 0;
        for (String method : new TreeSet<>(calls.keySet())) {
            for (String callee : calls.get(method)) {
                boolean own = callee.startsWith("PrimaryParts");
                CHECKS.due(method + " calls " + callee, true, () -> own || LIBRARY.contains(callee));
            }
            deepest = Math.max(deepest, depth(method, 0));
        }
        int most = deepest;
        CHECKS.due("calls go " + most + " deep", true, () -> most <= DEEPEST);
    }

    /** The library's own functions don't count as calls. */
    private int depth(String method, int above) {
        if (!method.startsWith("PrimaryParts")) {
            return 0;
        }
        CHECKS.due(method + " calls itself", false, () -> above > 40);
        if (above > 40) {
            return 0;
        }
        Integer known = depths.get(method);
        if (known != null) {
            return known;
        }
        int most = 0;
        for (String callee : calls.getOrDefault(method, Set.of())) {
            most = Math.max(most, depth(callee, above + 1));
        }
        depths.put(method, most + 1);
        return most + 1;
    }
}
