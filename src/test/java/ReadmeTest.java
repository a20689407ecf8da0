import java.io.IOException;
import java.lang.reflect.InvocationTargetException;
import java.lang.reflect.Method;
import java.lang.reflect.Modifier;
import java.nio.file.Files;
import java.nio.file.Path;
import java.util.ArrayList;
import java.util.List;
import java.util.Set;
import java.util.TreeSet;
import java.util.regex.Matcher;
import java.util.regex.Pattern;

/** What README.md shows of the class's use holds: each call that it shows is made, in its order. Run in the project's root. */
public final class ReadmeTest {
    private static final String MADE = "ChunkPacker packer = new ChunkPacker();";
    /** A call, and behind it what it answers, up to a colon or the line's end. */
    private static final Pattern CALL = Pattern.compile("packer\\.(\\w+)\\(([^()]*)\\);\\s*//\\s*([^:]*?)\\s*(:.*)?");
    private static final Pattern LITERAL = Pattern.compile("(-?)(0b[01]+|0|[1-9][0-9]*)(L?)");

    private final Check check = new Check();
    private final Set<String> shown = new TreeSet<>();
    private ChunkPacker packer;

    public static void main(String[] args) throws IOException {
        ReadmeTest test = new ReadmeTest();
        List<String> lines = Files.readAllLines(Path.of("README.md"));
        test.callsAnswerAsShown(block(lines, "java"));
        test.everyMethodIsShown();
        test.commandIsThere(block(lines, "sh"));
        test.everyTestIsNamed(String.join("\n", lines));
        test.check.end();
    }

    /** What stands between ```kind and ```, in all such places. */
    private static List<String> block(List<String> lines, String kind) {
        List<String> out = new ArrayList<>();
        boolean inside = false;
        for (String line : lines) {
            if (line.startsWith("```")) {
                inside = line.equals("```" + kind);
            } else if (inside) {
                out.add(line.strip());
            }
        }
        return out;
    }

    private void callsAnswerAsShown(List<String> lines) {
        for (String line : lines) {
            Matcher call = CALL.matcher(line);
            if (line.equals(MADE)) {
                packer = new ChunkPacker();
            } else if (call.matches()) {
                callAnswersAsShown(line, call.group(1), call.group(2), call.group(3));
            } else if (!line.isEmpty() && !line.startsWith("//")) {
                check.fault("README.md: this can't be tried: " + line);
            }
        }
    }

    private void callAnswersAsShown(String line, String name, String arguments, String shownAnswer) {
        Method method = methodOf(name);
        Object[] values = method == null || packer == null ? null : literals(method, arguments);
        if (values == null) {
            check.fault("README.md: there is no such call: " + line);
            return;
        }
        shown.add(name);
        check.due("README.md: " + line + " in truth", answer(method, values), due(method, shownAnswer));
    }

    private static Method methodOf(String name) {
        for (Method method : ChunkPacker.class.getDeclaredMethods()) {
            if (Modifier.isPublic(method.getModifiers()) && method.getName().equals(name)) {
                return method;
            }
        }
        return null;
    }

    /** The arguments as javac would take them, null if it would not. */
    private static Object[] literals(Method method, String arguments) {
        Class<?>[] types = method.getParameterTypes();
        String[] texts = arguments.isEmpty() ? new String[0] : arguments.split(",\\s*", -1);
        if (texts.length != types.length) {
            return null;
        }
        Object[] values = new Object[types.length];
        for (int i = 0; i < types.length; i++) {
            values[i] = literal(texts[i], types[i]);
            if (values[i] == null) {
                return null;
            }
        }
        return values;
    }

    private static Object literal(String text, Class<?> type) {
        Matcher matcher = LITERAL.matcher(text);
        if (!matcher.matches()) {
            return null;
        }
        boolean binary = matcher.group(2).startsWith("0b");
        String digits = matcher.group(1) + (binary ? matcher.group(2).substring(2) : matcher.group(2));
        long value = Long.parseLong(digits, binary ? 2 : 10);
        boolean isInt = matcher.group(3).isEmpty();
        if (isInt && value != (int) value || !isInt && type == int.class) {
            return null;
        }
        if (type == int.class) {
            return (int) value;
        }
        return value;
    }

    private String answer(Method method, Object[] values) {
        try {
            return String.valueOf(method.invoke(packer, values));
        } catch (InvocationTargetException e) {
            return "throws " + e.getCause().getClass().getSimpleName();
        } catch (IllegalAccessException e) {
            return "can't be called";
        }
    }

    private static String due(Method method, String shownAnswer) {
        if (shownAnswer.equals("ChunkPacker.NONE")) {
            return Integer.toString(ChunkPacker.NONE);
        }
        boolean answersNothing = method.getReturnType() == void.class && !shownAnswer.startsWith("throws ");
        return answersNothing ? "null" : shownAnswer;
    }

    private void everyMethodIsShown() {
        for (Method method : ChunkPacker.class.getDeclaredMethods()) {
            if (Modifier.isPublic(method.getModifiers()) && !shown.contains(method.getName())) {
                check.fault("README.md shows no call of " + method.getName());
            }
        }
    }

    /** It can't be run here: it runs this test. */
    private void commandIsThere(List<String> lines) {
        check.due("README.md: the command", String.join("\n", lines), ".ci/run");
        check.due(".ci/run can be run", Files.isExecutable(Path.of(".ci/run")), true);
    }

    private void everyTestIsNamed(String readme) throws IOException {
        Set<String> there = new TreeSet<>();
        try (var files = Files.newDirectoryStream(Path.of("src/test/java"), "*Test.java")) {
            for (Path file : files) {
                there.add(file.getFileName().toString().replace(".java", ""));
            }
        }
        Set<String> named = new TreeSet<>();
        Matcher names = Pattern.compile("`(\\w+Test)`").matcher(readme);
        while (names.find()) {
            named.add(names.group(1));
        }
        check.due("README.md: the tests that it names", named.toString(), there.toString());
    }
}
