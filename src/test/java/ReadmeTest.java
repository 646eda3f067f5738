import java.lang.reflect.InvocationTargetException;
import java.lang.reflect.Method;
import java.lang.reflect.Modifier;
import java.nio.file.Files;
import java.nio.file.Path;
import java.util.ArrayList;
import java.util.List;
import java.util.regex.Matcher;
import java.util.regex.Pattern;

/** README.md tells each call of the face, and its examples answer what it says: run it from the project's directory. */
public final class ReadmeTest {
    private static final Checks CHECKS = new Checks("ReadmeTest");
    private static final Pattern BLOCK = Pattern.compile("(?s)```java\n(.*?)```");
    private static final Pattern CALL = Pattern.compile("x\\.(\\w+)\\((.*?)\\); +// (throws )?(-?\\w+)\\b.*");
    private static final Pattern TOLD =
        Pattern.compile("tellText\\(x, (\\d), \"(.*?)\"\\); +// (throws )?(-?\\w+)\\b.*");

    public static void main(String[] args) throws Exception {
        String readme = Files.readString(Path.of("README.md"));
        for (Method method : PrimaryParts.class.getDeclaredMethods()) {
            if (Modifier.isPublic(method.getModifiers())) {
                row(readme, method);
            }
        }
        CHECKS.same("the document is named", true, readme.contains("../shared/DOC.md"));
        CHECKS.same("the tests' script is named", true, readme.contains("\n    .ci/run\n"));
        tests(readme);
        examples(readme);
        CHECKS.finish();
    }

    /** The calls' tables have a row for it, with as many arguments and each exception that it may throw. */
    private static void row(String readme, Method method) {
        String name = method.getName();
        Matcher found = Pattern.compile("\n\\| `" + name + "\\((.*?)\\)` \\|.*\\|(.*)\\|\n").matcher(readme);
        if (!CHECKS.same("README has a row of " + name, true, found.find())) {
            return;
        }
        int arguments = found.group(1).isEmpty() ? 0 : found.group(1).split(", ").length;
        CHECKS.same("arguments of " + name, method.getParameterCount(), arguments);
        int behind = -1;
        for (Class<?> exception : method.getExceptionTypes()) {
            int at = found.group(2).indexOf(exception.getSimpleName() + ":");
            CHECKS.same(name + " may throw " + exception.getSimpleName() + ", in the face's order", true, at > behind);
            behind = at;
        }
        boolean throwing = found.group(2).contains("Exception");
        CHECKS.same(name + " throws", method.getExceptionTypes().length > 0, throwing);
    }

    private static void tests(String readme) throws Exception {
        List<Path> files = new ArrayList<>();
        try (var all = Files.list(Path.of("src/test/java"))) {
            all.forEach(files::add);
        }
        for (Path file : files) {
            String name = file.getFileName().toString().replace(".java", "");
            if (name.endsWith("Test")) {
                CHECKS.same("README tells of " + name, true, readme.contains("`" + name));
            }
        }
    }

    private static void examples(String readme) throws Exception {
        String own = Files.readString(Path.of("src/test/java/ReadmeTest.java"));
        Matcher blocks = BLOCK.matcher(readme);
        int made = 0;
        while (blocks.find()) {
            String block = blocks.group(1);
            if (block.startsWith("static ")) {
                String indented = "    " + block.strip().replace("\n", "\n    ");
                CHECKS.same("README's tellText stands here", true, own.contains("\n" + indented + "\n"));
                continue;
            }
            made += example(block.split("\n"));
        }
        CHECKS.same("examples are found", true, made > 40);
    }

    private static int example(String[] lines) {
        PrimaryParts x = new PrimaryParts();
        CHECKS.same("an example begins", "PrimaryParts x = new PrimaryParts();", lines[0]);
        for (int k = 1; k < lines.length; k++) {
            Matcher call = CALL.matcher(lines[k]);
            Matcher told = TOLD.matcher(lines[k]);
            if (told.matches()) {
                int answer = tellText(x, Integer.parseInt(told.group(1)), told.group(2));
                CHECKS.same(lines[k], told.group(4), String.valueOf(answer));
            } else if (CHECKS.same(lines[k] + " is a call", true, call.matches())) {
                String due = (call.group(3) != null ? "throws." : "") + call.group(4);
                CHECKS.same(lines[k], due, answerOf(x, call.group(1), call.group(2)));
            }
        }
        return lines.length - 1;
    }

    private static String answerOf(PrimaryParts x, String name, String arguments) {
        String[] texts = arguments.isEmpty() ? new String[0] : arguments.split(", ");
        Object[] numbers = new Object[texts.length];
        for (int k = 0; k < texts.length; k++) {
            numbers[k] = Integer.decode(texts[k]);
        }
        for (Method method : PrimaryParts.class.getMethods()) {
            if (method.getName().equals(name) && method.getParameterCount() == numbers.length) {
                return String.valueOf(Checks.answerOf(() -> invoke(x, method, numbers)));
            }
        }
        return "no such call";
    }

    private static Object invoke(PrimaryParts x, Method method, Object[] numbers) {
        try {
            return method.invoke(x, numbers);
        } catch (InvocationTargetException e) {
            throw (RuntimeException) e.getCause();
        } catch (IllegalAccessException e) {
            return "no access";
        }
    }

    static int tellText(PrimaryParts x, int place, String text) {
        for (int start = 0; start < text.length(); start += 20) {
            int[] five = new int[5];
            for (int k = 0; k < 20; k++) {
                int sign = start + k < text.length() ? text.charAt(start + k) : ' ';
                five[k / 4] = five[k / 4] << 8 | sign;
            }
            x.feed(five[0], five[1], five[2], five[3], five[4]);
        }
        return x.tell(place, text.length());
    }
}
