import java.io.IOException;
import java.lang.reflect.Constructor;
import java.lang.reflect.Field;
import java.lang.reflect.Method;
import java.lang.reflect.Modifier;
import java.nio.file.Files;
import java.nio.file.Path;
import java.util.Arrays;
import java.util.List;
import java.util.TreeSet;
import java.util.regex.Matcher;
import java.util.regex.Pattern;

/** The face of the document, and the rules of LANGUAGE.md that a look at the text can tell. */
public final class LanguageTest {
    private static final Check check = new Check();
    private static final String[] FACE = {
        "int type(long, int)", "int thing()", "int line(int, int, int, int)", "int byteAt(int, int)", "int place(int, int)",
        "int made(int, int, int)", "int show(int)", "int forget(int)", "long fitting(int)", "int shortest(int)",
        "int paper(int, int)", "int differs(int)", "int settle()", "int odd(int)", "int slips()", "int state(int)",
        "int doing(int)", "int back()", "int end(int, int)", "int otherwise()", "int keep()", "int text()",
        "int kept(int, int)", "int run(int, int, int)", "int count(int)", "int sheet(int, int, int)", "int drop(int)",
        "int item(int, int, int, int)", "int put(int, int, int, int, int)",
    };

    public static void main(String[] args) throws IOException {
        face();
        constants();
        nested();
        text(Files.readString(Path.of("src/main/java/ShownOnce.java")));
        check.close("LanguageTest");
    }

    private static void face() {
        check.due("modifiers", ShownOnce.class.getModifiers(), Modifier.PUBLIC | Modifier.FINAL);
        TreeSet<String> want = new TreeSet<>(Arrays.asList(FACE));
        TreeSet<String> got = new TreeSet<>();
        TreeSet<String> names = new TreeSet<>();
        for (Method method : ShownOnce.class.getDeclaredMethods()) {
            if (!Modifier.isPrivate(method.getModifiers()) && !method.isSynthetic()) {
                got.add(signature(method));
                names.add(method.getName());
                check.due(method.getName(), method.getModifiers(), Modifier.PUBLIC);
            }
        }
        check.due("the face", got.toString(), want.toString());
        for (Method method : ShownOnce.class.getDeclaredMethods()) {
            if (Modifier.isPrivate(method.getModifiers())) {
                check.due("private " + method.getName(), names.contains(method.getName()) ? 1 : 0, 0);
            }
        }
        Constructor<?>[] made = ShownOnce.class.getDeclaredConstructors();
        check.due("constructors", made.length, 1);
        check.due("its parameters", made[0].getParameterCount(), 0);
        check.due("it is public", made[0].getModifiers(), Modifier.PUBLIC);
    }

    private static String signature(Method method) {
        StringBuilder text = new StringBuilder(method.getReturnType() + " " + method.getName() + "(");
        for (Class<?> parameter : method.getParameterTypes()) {
            text.append(text.charAt(text.length() - 1) == '(' ? "" : ", ").append(parameter);
        }
        return text.append(')').toString();
    }

    private static void constants() {
        TreeSet<String> got = new TreeSet<>();
        for (Field field : ShownOnce.class.getDeclaredFields()) {
            if (!Modifier.isPrivate(field.getModifiers())) {
                got.add(field.getName());
                check.due(field.getName(), field.getModifiers(), Modifier.PUBLIC | Modifier.STATIC | Modifier.FINAL);
            }
        }
        check.due("constants", got.toString(), "[BAD, CAST, FULL, INDEX, NONE, NOT, NULL, SIZE]");
        check.due("BAD", ShownOnce.BAD, -1);
        check.due("NOT", ShownOnce.NOT, -2);
        check.due("FULL", ShownOnce.FULL, -3);
        check.due("NONE", ShownOnce.NONE, -4);
        check.due("NULL", ShownOnce.NULL, -11);
        check.due("CAST", ShownOnce.CAST, -12);
        check.due("INDEX", ShownOnce.INDEX, -13);
        check.due("SIZE", ShownOnce.SIZE, -14);
    }

    private static void nested() {
        Class<?>[] classes = ShownOnce.class.getDeclaredClasses();
        check.due("at most twelve classes", classes.length < 12 ? 1 : 0, 1);
        for (Class<?> inside : classes) {
            int modifiers = inside.getModifiers();
            check.due(inside + " is static", Modifier.isStatic(modifiers) ? 1 : 0, 1);
            check.due(inside + " is not public", Modifier.isPublic(modifiers) || Modifier.isProtected(modifiers) ? 1 : 0, 0);
        }
        for (Class<?> any : withOuter(classes)) {
            int own = 0;
            for (Field field : any.getDeclaredFields()) {
                own += Modifier.isStatic(field.getModifiers()) ? 0 : 1;
                check.due(any + "." + field.getName(), Modifier.isStatic(field.getModifiers())
                    && !Modifier.isFinal(field.getModifiers()) ? 1 : 0, 0);
            }
            check.due("fields of " + any, own <= 20 ? 1 : 0, 1);
            for (Method method : any.getDeclaredMethods()) {
                check.due("parameters of " + method, method.getParameterCount() <= 7 ? 1 : 0, 1);
            }
        }
    }

    private static List<Class<?>> withOuter(Class<?>[] classes) {
        List<Class<?>> all = new java.util.ArrayList<>(Arrays.asList(classes));
        all.add(ShownOnce.class);
        return all;
    }

    private static void text(String source) {
        String bare = source.replaceAll("(?s)/\\*.*?\\*/", "").replaceAll("//[^\n]*", "")
            .replaceAll("'(\\\\.|[^'])'", "' '").replaceAll("\"(\\\\.|[^\"\\\\])*\"", "\"\"");
        for (String word : new String[] {
            "throw", "throws", "try", "catch", "finally", "synchronized", "assert", "package", "native", "volatile",
            "System.out", "Thread", "Random", "hashCode", "toString", "Object", "Exact",
        }) {
            check.due(word, Pattern.compile("\\b" + word + "\\b").matcher(bare).find() ? 1 : 0, 0);
        }
        check.due("no lambda", bare.contains("->") || bare.contains("::") ? 1 : 0, 0);
        check.due("no static block", Pattern.compile("\\bstatic\\s*\\{").matcher(bare).find() ? 1 : 0, 0);
        TreeSet<String> imports = new TreeSet<>();
        Matcher found = Pattern.compile("import ([^;]+);").matcher(bare);
        while (found.find()) {
            imports.add(found.group(1));
        }
        check.due("imports", imports.toString(), "[java.util.Arrays]");
        check.due("no sign above 127", source.chars().allMatch(c -> c < 128) ? 1 : 0, 1);
        shortMethods(source);
        boundedLoops(bare);
    }

    /** Rule 9: the head of each loop has a counter and what it is held against; a while may count in its body. */
    private static void boundedLoops(String bare) {
        Matcher loop = Pattern.compile("\\b(for|while) \\((.*)\\) \\{").matcher(bare);
        int loops = 0;
        while (loop.find()) {
            String head = loop.group(2);
            boolean counted = loop.group(1).equals("while") || head.matches("int \\w+ = [^;]+;[^;]+; \\w+(\\+\\+|--)");
            check.due("bound of " + head, counted && head.matches(".*\\w (<|<=|>|>=) \\w.*") ? 1 : 0, 1);
            loops++;
        }
        Matcher word = Pattern.compile("\\b(for|while|do)\\b").matcher(bare);
        while (word.find()) {
            loops--;
        }
        check.due("loops whose head was not found", loops, 0);
    }

    /** A method's lines stand one step deeper than its head, which ends with a brace. */
    private static void shortMethods(String source) {
        String[] lines = source.split("\n");
        for (int i = 0; i < lines.length; i++) {
            Matcher head = Pattern.compile("^( {4}| {8})[a-z].*\\) \\{$").matcher(lines[i]);
            if (!head.matches() || lines[i].contains("class ")) {
                continue;
            }
            int end = i;
            while (end < lines.length && !lines[end].equals(head.group(1) + "}")) {
                end++;
            }
            check.due("lines of " + lines[i].trim(), end - i <= 60 ? 1 : 0, 1);
        }
    }
}
