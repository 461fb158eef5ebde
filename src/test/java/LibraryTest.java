import java.io.DataInputStream;
import java.io.IOException;
import java.io.InputStream;
import java.util.ArrayList;
import java.util.List;
import java.util.TreeSet;

/** Rule 4 of LANGUAGE.md, held on what the compiler made: of the library only what stands there is called. */
public final class LibraryTest {
    private static final Check check = new Check();
    private static final int UTF8 = 1, LONG = 5, DOUBLE = 6, CLASS = 7, STRING = 8, METHOD = 10, INTERFACE_METHOD = 11;
    private static final int NAME_AND_TYPE = 12, METHOD_HANDLE = 15, METHOD_TYPE = 16, DYNAMIC = 17, INVOKE_DYNAMIC = 18;
    private static final int MODULE = 19, PACKAGE = 20;
    private static final String[] ALLOWED = {
        "java/lang/Object.<init>()V",
        "java/lang/String.(length|charAt|isEmpty|equals|substring|toCharArray)\\(.*",
        "java/lang/String.indexOf\\(I\\)I",
        "java/lang/String.<init>\\(\\[C\\)V",
        "java/lang/StringBuilder.(<init>|append|charAt|setCharAt|setLength|deleteCharAt|reverse|length|toString)\\(.*",
        "java/util/(Array)?List.(<init>|add|get|set|remove|size|isEmpty|clear)\\(.*",
        "java/lang/(Integer|Long|Math).(compare|max|min|abs|bitCount|floorDiv|floorMod)\\([IJ]*\\)[IJ]",
        "java/lang/System.arraycopy\\(.*",
        "java/util/Arrays.(copyOf|copyOfRange|fill)\\(\\[[BSIJC].*",
    };

    public static void main(String[] args) throws IOException {
        List<String> names = new ArrayList<>(List.of("ShownOnce"));
        for (Class<?> inside : ShownOnce.class.getDeclaredClasses()) {
            names.add(inside.getName());
        }
        for (String name : names) {
            for (String called : calledBy(name)) {
                check.due(name + " calls " + called, called.startsWith("ShownOnce") || isAllowed(called) ? 1 : 0, 1);
            }
        }
        check.close("LibraryTest");
    }

    private static boolean isAllowed(String called) {
        for (String pattern : ALLOWED) {
            if (called.equals(pattern) || called.matches(pattern)) {
                return true;
            }
        }
        return false;
    }

    /** The methods that a class file names, and its dynamic calls, which stand for lambdas and texts joined by +. */
    private static TreeSet<String> calledBy(String name) throws IOException {
        try (InputStream file = LibraryTest.class.getResourceAsStream(name + ".class");
             DataInputStream in = new DataInputStream(file)) {
            in.readInt();
            in.readInt();
            int n = in.readUnsignedShort();
            int[] tags = new int[n];
            int[] first = new int[n];
            int[] second = new int[n];
            String[] texts = new String[n];
            for (int i = 1; i < n; i++) {
                tags[i] = in.readUnsignedByte();
                switch (tags[i]) {
                    case UTF8 -> texts[i] = in.readUTF();
                    // These two take two entries.
                    case LONG, DOUBLE -> {
                        in.readLong();
                        i++;
                    }
                    case CLASS, STRING, METHOD_TYPE, MODULE, PACKAGE -> first[i] = in.readUnsignedShort();
                    case METHOD_HANDLE -> {
                        in.readUnsignedByte();
                        in.readUnsignedShort();
                    }
                    default -> {
                        first[i] = in.readUnsignedShort();
                        second[i] = in.readUnsignedShort();
                    }
                }
            }
            TreeSet<String> called = new TreeSet<>();
            for (int i = 1; i < n; i++) {
                if (tags[i] == METHOD || tags[i] == INTERFACE_METHOD) {
                    int what = second[i];
                    check.due("a name and a type", tags[what], NAME_AND_TYPE);
                    called.add(texts[first[first[i]]] + "." + texts[first[what]] + texts[second[what]]);
                } else if (tags[i] == DYNAMIC || tags[i] == INVOKE_DYNAMIC) {
                    called.add("a dynamic call");
                }
            }
            return called;
        }
    }
}
