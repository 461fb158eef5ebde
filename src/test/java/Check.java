/** Counts answers that are not as due, and tells each of them. */
final class Check {
    private int right = 0;
    private int wrong = 0;

    void due(String call, long got, long want) {
        if (got == want) {
            right++;
        } else {
            wrong++;
            System.out.println(call + " answered " + got + ", due is " + want);
        }
    }

    void due(String what, String got, String want) {
        boolean same = got == null ? want == null : got.equals(want);
        if (!same) {
            System.out.println(what + " is " + got + ", due is " + want);
        }
        if (same) {
            right++;
        } else {
            wrong++;
        }
    }

    void close(String test) {
        System.out.println(test + ": " + right + " as due, " + wrong + " not");
        if (wrong != 0 || right == 0) {
            System.exit(1);
        }
    }

    // ---- ways to use an object with texts in place of bytes

    static int typeAll(ShownOnce x, String text) {
        int answer = 0;
        for (int i = 0; i < text.length(); i += 8) {
            int n = Math.min(8, text.length() - i);
            answer = x.type(word(text.substring(i, i + n)), n);
        }
        return answer;
    }

    static long word(String upToEight) {
        long w = 0;
        for (int i = 0; i < upToEight.length(); i++) {
            w = w << 8 | upToEight.charAt(i);
        }
        return w;
    }

    static ShownOnce with(String... lines) {
        ShownOnce x = new ShownOnce();
        for (String line : lines) {
            thingOf(x, line);
        }
        return x;
    }

    static int thingOf(ShownOnce x, String line) {
        typeAll(x, line);
        return x.thing();
    }

    static int showOf(ShownOnce x, int thing, String end) {
        typeAll(x, end);
        return x.show(thing);
    }

    static int textOf(ShownOnce x, String text) {
        typeAll(x, text);
        return x.text();
    }

    /** What a call tells byte by byte, null for NONE. */
    static String spell(java.util.function.IntUnaryOperator byteAt) {
        int size = byteAt.applyAsInt(-1);
        if (size == ShownOnce.NONE) {
            return null;
        }
        if (size < 0) {
            return "refusal " + size;
        }
        StringBuilder text = new StringBuilder();
        for (int i = 0; i < size; i++) {
            text.append((char) byteAt.applyAsInt(i));
        }
        if (byteAt.applyAsInt(size) != ShownOnce.BAD) {
            return "no end behind " + text;
        }
        return text.toString();
    }
}
