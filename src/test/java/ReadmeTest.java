import java.io.IOException;
import java.io.UncheckedIOException;
import java.lang.reflect.InvocationTargetException;
import java.lang.reflect.Method;
import java.nio.file.Files;
import java.nio.file.Path;
import java.util.ArrayList;
import java.util.List;
import java.util.TreeSet;
import java.util.regex.Matcher;
import java.util.regex.Pattern;
import java.util.stream.Stream;

/** Makes the calls that README.md shows, on one object as it says, and holds the answers that it gives. */
public final class ReadmeTest {
    private static final Check check = new Check();
    private static final String NEW = "ShownOnce x = new ShownOnce();";
    private static final Pattern CALL = Pattern.compile("x\\.(\\w+)\\(([^()]*)\\); *// (-?\\d+|[A-Z]+)(?:: (.*))?");
    private static final Pattern TYPED = Pattern.compile("\"(.*)\"(?:; .*)?");

    public static void main(String[] args) throws IOException, ReflectiveOperationException {
        List<String> lines = Files.readAllLines(Path.of("README.md"));
        callsOf(lines);
        saysHowToTest(String.join("\n", lines));
        check.close("ReadmeTest");
    }

    /** A line of code that is no call with its answer would be held by nothing, so there is none. */
    private static void callsOf(List<String> lines) throws ReflectiveOperationException {
        ShownOnce x = null;
        TreeSet<String> shown = new TreeSet<>();
        int calls = 0;
        for (String line : javaOf(lines)) {
            Matcher call = CALL.matcher(line);
            if (line.equals(NEW)) {
                check.due("one object", x == null ? 1 : 0, 1);
                x = new ShownOnce();
            } else if (call.matches() && x != null) {
                make(x, call);
                shown.add(call.group(1));
                calls++;
            } else {
                check.due(line, "no call with its answer", "a call with its answer");
            }
        }
        check.due("calls", calls <= 512 ? 1 : 0, 1);
        check.due("every call is shown", shown.toString(), face().toString());
    }

    private static List<String> javaOf(List<String> lines) {
        List<String> code = new ArrayList<>();
        boolean inside = false;
        for (String line : lines) {
            if (line.startsWith("```")) {
                inside = line.equals("```java");
            } else if (inside) {
                code.add(line);
            }
        }
        return code;
    }

    private static void make(ShownOnce x, Matcher call) throws ReflectiveOperationException {
        Method method = methodOf(call.group(1));
        Object[] numbers = numbersOf(method, call.group(2));
        long got;
        try {
            got = ((Number) method.invoke(x, numbers)).longValue();
        } catch (InvocationTargetException e) {
            check.due(call.group(), e.getCause().toString(), "an answer");
            return;
        }
        check.due(call.group(), got, answerOf(call.group(3)));
        if (call.group(1).equals("type")) {
            Matcher typed = TYPED.matcher(call.group(4) == null ? "" : call.group(4));
            String text = typed.matches() ? typed.group(1) : "";
            check.due(call.group() + ": its bytes", Check.word(text), (Long) numbers[0]);
            check.due(call.group() + ": how many", text.length(), (Integer) numbers[1]);
        }
    }

    private static Method methodOf(String name) throws NoSuchMethodException {
        for (Method method : ShownOnce.class.getDeclaredMethods()) {
            if (method.getName().equals(name)) {
                return method;
            }
        }
        throw new NoSuchMethodException(name);
    }

    private static Object[] numbersOf(Method method, String told) {
        String[] parts = told.isEmpty() ? new String[0] : told.split(", ");
        Class<?>[] types = method.getParameterTypes();
        check.due(method.getName() + " takes", parts.length, types.length);
        Object[] numbers = new Object[types.length];
        for (int i = 0; i < numbers.length; i++) {
            if (types[i] == long.class) {
                numbers[i] = Long.decode(parts[i].replace("L", ""));
            } else {
                numbers[i] = Integer.decode(parts[i]);
            }
        }
        return numbers;
    }

    private static long answerOf(String told) throws ReflectiveOperationException {
        return Character.isUpperCase(told.charAt(0)) ? ShownOnce.class.getField(told).getInt(null) : Long.parseLong(told);
    }

    private static TreeSet<String> face() {
        TreeSet<String> names = new TreeSet<>();
        for (Method method : ShownOnce.class.getMethods()) {
            if (method.getDeclaringClass() == ShownOnce.class) {
                names.add(method.getName());
            }
        }
        return names;
    }

    private static void saysHowToTest(String page) {
        check.due("how to run the tests", page.contains("\n    .ci/run\n") ? 1 : 0, 1);
        for (String refusal : new String[] {"BAD", "NOT", "FULL", "NONE", "NULL", "CAST", "INDEX", "SIZE"}) {
            Matcher named = Pattern.compile("`" + refusal + "`\\s(-\\d+)").matcher(page);
            check.due(refusal, named.find() ? named.group(1) : null, "" + constant(refusal));
        }
        try (Stream<Path> files = Files.list(Path.of("src/test/java"))) {
            files.map(file -> file.getFileName().toString().replace(".java", "")).filter(name -> name.endsWith("Test"))
                .forEach(name -> check.due(name + " is told of", page.contains("`" + name + "`") ? 1 : 0, 1));
        } catch (IOException e) {
            throw new UncheckedIOException(e);
        }
    }

    private static int constant(String name) {
        try {
            return ShownOnce.class.getField(name).getInt(null);
        } catch (ReflectiveOperationException e) {
            throw new IllegalStateException(name, e);
        }
    }
}
