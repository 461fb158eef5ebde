import java.util.ArrayDeque;
import java.util.ArrayList;
import java.util.Arrays;
import java.util.Comparator;
import java.util.Deque;
import java.util.HashMap;
import java.util.LinkedHashMap;
import java.util.List;
import java.util.Map;
import java.util.TreeMap;
import java.util.TreeSet;
import java.util.regex.Matcher;
import java.util.regex.Pattern;

/** The document once more, as slow and plain as can be: programs are listed and tried. */
final class NaiveModel {
    static final int BAD = -1, NOT = -2, FULL = -3, NONE = -4, NULL = -11, CAST = -12, INDEX = -13, SIZE = -14;

    private String tape = "";
    private final List<String> lines = new ArrayList<>();
    private final List<Integer> states = new ArrayList<>();
    private final Map<Integer, String> ends = new HashMap<>();
    private final TreeMap<Integer, String> shown = new TreeMap<>();
    private final Deque<List<Integer>> doings = new ArrayDeque<>();
    private final List<int[]> keptPrograms = new ArrayList<>();
    private final int[][] sheetItems = new int[4][];
    private final int[] sheetLanes = new int[4];
    private Fits fits = null;

    // ---- pieces

    private static boolean isOf(int kind, char c) {
        boolean digit = "0123456789".indexOf(c) >= 0;
        boolean capital = "ABCDEFGHIJKLMNOPQRSTUVWXYZ".indexOf(c) >= 0;
        boolean letter = capital || "abcdefghijklmnopqrstuvwxyz".indexOf(c) >= 0;
        return switch (kind) {
            case 0 -> digit;
            case 1 -> letter;
            case 2 -> capital;
            default -> !digit && !letter;
        };
    }

    static int placeIn(String line, int place) {
        int size = line.length();
        if (place < 8) {
            return place <= size ? place : NONE;
        }
        if (place < 16) {
            return size - (place - 8) >= 0 ? size - (place - 8) : NONE;
        }
        int kind = (place - 16) / 6;
        int side = (place - 16) / 3 % 2;
        int which = (place - 16) % 3;
        List<int[]> runs = new ArrayList<>();
        for (int i = 0; i < size; i++) {
            if (!isOf(kind, line.charAt(i))) {
                continue;
            }
            boolean goesOn = kind != 3 && i > 0 && isOf(kind, line.charAt(i - 1));
            if (goesOn) {
                runs.get(runs.size() - 1)[1] = i + 1;
            } else {
                runs.add(new int[] {i, i + 1});
            }
        }
        int index = which == 2 ? runs.size() - 1 : which;
        return index < 0 || index >= runs.size() ? NONE : runs.get(index)[side];
    }

    static String cutOf(String line, int cut) {
        int from = placeIn(line, cut / 120);
        int to = placeIn(line, cut % 120 / 3);
        if (from < 0 || to < 0 || from >= to) {
            return null;
        }
        String piece = line.substring(from, to);
        return switch (cut % 3) {
            case 0 -> piece;
            case 1 -> piece.toUpperCase(java.util.Locale.ROOT);
            default -> piece.toLowerCase(java.util.Locale.ROOT);
        };
    }

    static int typedNumber(String bytes) {
        int v = 0;
        for (char c : bytes.toCharArray()) {
            v = v * 256 + c;
        }
        return bytes.length() * 16777216 + v;
    }

    static String pieceOf(String line, int piece) {
        if (piece < 4800) {
            return cutOf(line, piece);
        }
        StringBuilder text = new StringBuilder();
        int left = piece % 16777216;
        for (int i = 0; i < piece / 16777216; i++) {
            text.insert(0, (char) (left % 256));
            left /= 256;
        }
        return text.toString();
    }

    static String madeBy(int[] program, String line) {
        StringBuilder text = new StringBuilder();
        for (int piece : program) {
            String part = pieceOf(line, piece);
            if (part == null) {
                return null;
            }
            text.append(part);
        }
        return text.toString();
    }

    static int costOf(int[] program) {
        int sum = 0;
        for (int piece : program) {
            sum += piece >= 4800 ? 2 + piece / 16777216 : piece % 3 == 0 ? 4 : 5;
        }
        return sum;
    }

    static final Comparator<int[]> ORDER = (a, b) -> {
        int byCost = Integer.compare(costOf(a), costOf(b));
        int bySize = Integer.compare(a.length, b.length);
        return byCost != 0 ? byCost : bySize != 0 ? bySize : Arrays.compare(a, b);
    };

    // ---- fitting

    /** How many fit, and the first 64 in order. */
    static final class Fits {
        final long[] counts = new long[4];
        final TreeSet<int[]> nearest = new TreeSet<>(ORDER);

        void add(int[] program) {
            counts[program.length]++;
            counts[0]++;
            nearest.add(program);
            if (nearest.size() > 64) {
                nearest.pollLast();
            }
        }
    }

    /** Pieces that make the same of all shown things are tried together. */
    static Fits fitsOf(List<String> lines, List<String> ends) {
        Map<List<String>, List<Integer>> alike = new LinkedHashMap<>();
        for (int cut = 0; cut < 4800; cut++) {
            addPiece(alike, lines, cut);
        }
        String end = ends.get(0);
        TreeSet<String> typed = new TreeSet<>();
        for (int k = 1; k <= 3; k++) {
            for (int i = 0; i + k <= end.length(); i++) {
                typed.add(end.substring(i, i + k));
            }
        }
        for (String bytes : typed) {
            addPiece(alike, lines, typedNumber(bytes));
        }
        Fits fits = new Fits();
        for (Map.Entry<List<String>, List<Integer>> a : alike.entrySet()) {
            if (makes(ends, a.getKey())) {
                a.getValue().forEach(p -> fits.add(new int[] {p}));
            }
            if (!end.startsWith(a.getKey().get(0))) {
                continue;
            }
            for (Map.Entry<List<String>, List<Integer>> b : alike.entrySet()) {
                if (!end.endsWith(b.getKey().get(0))) {
                    continue;
                }
                if (makes(ends, a.getKey(), b.getKey())) {
                    a.getValue().forEach(p -> b.getValue().forEach(q -> fits.add(new int[] {p, q})));
                }
                for (String bytes : typed) {
                    List<String> same = java.util.Collections.nCopies(ends.size(), bytes);
                    if (makes(ends, a.getKey(), same, b.getKey())) {
                        int m = typedNumber(bytes);
                        a.getValue().forEach(p -> b.getValue().forEach(q -> fits.add(new int[] {p, m, q})));
                    }
                }
            }
        }
        return fits;
    }

    private static void addPiece(Map<List<String>, List<Integer>> alike, List<String> lines, int piece) {
        List<String> made = new ArrayList<>();
        for (String line : lines) {
            String part = pieceOf(line, piece);
            if (part == null) {
                return;
            }
            made.add(part);
        }
        alike.computeIfAbsent(made, key -> new ArrayList<>()).add(piece);
    }

    @SafeVarargs
    private static boolean makes(List<String> ends, List<String>... parts) {
        for (int i = 0; i < ends.size(); i++) {
            StringBuilder text = new StringBuilder();
            for (List<String> part : parts) {
                text.append(part.get(i));
            }
            if (!text.toString().equals(ends.get(i))) {
                return false;
            }
        }
        return true;
    }

    private Fits without(int bits) {
        List<String> of = new ArrayList<>();
        List<String> to = new ArrayList<>();
        shown.forEach((thing, end) -> {
            if ((bits >> thing & 1) == 0) {
                of.add(lines.get(thing));
                to.add(end);
            }
        });
        return of.isEmpty() ? null : fitsOf(of, to);
    }

    private int refusal() {
        if (shown.isEmpty()) {
            return NOT;
        }
        if (fits == null) {
            fits = without(0);
        }
        return fits.counts[0] == 0 ? NONE : 0;
    }

    private int[] first() {
        return fits.nearest.first();
    }

    static String shape(String text) {
        StringBuilder row = new StringBuilder();
        for (char c : text.toCharArray()) {
            char kind = isOf(0, c) ? '0' : isOf(2, c) ? '2' : isOf(1, c) ? '1' : '3';
            if (row.length() == 0 || row.charAt(row.length() - 1) != kind) {
                row.append(kind);
            }
        }
        return row.toString();
    }

    private boolean isOdd(int thing) {
        String made = madeBy(first(), lines.get(thing));
        return made == null || shown.values().stream().noneMatch(end -> shape(end).equals(shape(made)));
    }

    private Map<String, Integer> endsOf(int thing) {
        Map<String, Integer> makers = new HashMap<>();
        for (int[] program : fits.nearest) {
            String made = madeBy(program, lines.get(thing));
            makers.merge(made == null ? "" : made, 1, Integer::sum);
        }
        return makers;
    }

    private static int byteOrSize(String text, int i) {
        return i == -1 ? text.length() : i >= 0 && i < text.length() ? text.charAt(i) : BAD;
    }

    private boolean isThing(int thing) {
        return thing >= 0 && thing < lines.size();
    }

    // ---- the face

    int type(long w, int n) {
        if (n < 1 || n > 8) {
            return BAD;
        }
        StringBuilder bytes = new StringBuilder();
        for (int i = n - 1; i >= 0; i--) {
            int b = (int) (w >>> 8 * i & 255);
            if (b < 32 || b > 126) {
                return BAD;
            }
            bytes.append((char) b);
        }
        if (tape.length() + n > 60) {
            return FULL;
        }
        tape += bytes;
        return tape.length();
    }

    private String takeTape() {
        String taken = tape;
        tape = "";
        return taken;
    }

    int thing() {
        String line = takeTape();
        return line.isEmpty() || line.length() > 16 ? NOT : newThing(line);
    }

    private int newThing(String line) {
        if (lines.size() == 12) {
            return FULL;
        }
        lines.add(line);
        states.add(0);
        return lines.size() - 1;
    }

    int line(int sheet, int lane, int from, int n) {
        if (sheet < 0 || sheet > 3 || lane < 0 || lane > 2 || n < 1 || n > 16) {
            return BAD;
        }
        int machine = machine(sheet, lane);
        if (machine != 0) {
            return machine;
        }
        if (from < 0 || (long) from + n > sheetItems[sheet].length) {
            return INDEX;
        }
        StringBuilder text = new StringBuilder();
        for (int i = from; i < from + n; i++) {
            int v = sheetItems[sheet][i];
            if (v < 32 || v > 126) {
                return NOT;
            }
            text.append((char) v);
        }
        return newThing(text.toString());
    }

    int byteAt(int thing, int i) {
        return isThing(thing) ? byteOrSize(lines.get(thing), i) : BAD;
    }

    int place(int thing, int place) {
        return !isThing(thing) || place < 0 || place > 39 ? BAD : placeIn(lines.get(thing), place);
    }

    int made(int thing, int cut, int i) {
        if (!isThing(thing) || cut < 0 || cut > 4799 || i < -1) {
            return BAD;
        }
        String made = cutOf(lines.get(thing), cut);
        return made == null ? NONE : byteOrSize(made, i);
    }

    int show(int thing) {
        if (!isThing(thing)) {
            return BAD;
        }
        String end = takeTape();
        if (end.isEmpty() || end.length() > 12) {
            return NOT;
        }
        if (!shown.containsKey(thing) && shown.size() == 4) {
            return FULL;
        }
        shown.put(thing, end);
        states.set(thing, 1);
        ends.put(thing, end);
        fits = null;
        return shown.size();
    }

    int forget(int thing) {
        if (!isThing(thing)) {
            return BAD;
        }
        if (!shown.containsKey(thing)) {
            return NOT;
        }
        shown.remove(thing);
        states.set(thing, 0);
        fits = null;
        return shown.size();
    }

    long fitting(int n) {
        if (n < 0 || n > 3) {
            return BAD;
        }
        return refusal() == NOT ? NOT : fits.counts[n];
    }

    private static int tell(int[] program, int what) {
        return what == 0 ? costOf(program) : what == 1 ? program.length
            : what >= 2 && what - 2 < program.length ? program[what - 2] : BAD;
    }

    int shortest(int what) {
        if (what < 0 || what > 4) {
            return BAD;
        }
        int refusal = refusal();
        return refusal != 0 ? refusal : tell(first(), what);
    }

    int paper(int thing, int i) {
        if (!isThing(thing) || i < -1) {
            return BAD;
        }
        int refusal = refusal();
        if (refusal != 0) {
            return refusal;
        }
        String made = madeBy(first(), lines.get(thing));
        return made == null ? NONE : byteOrSize(made, i);
    }

    int differs(int thing) {
        if (!isThing(thing)) {
            return BAD;
        }
        int refusal = refusal();
        return refusal != 0 ? refusal : endsOf(thing).size();
    }

    int settle() {
        int refusal = refusal();
        if (refusal != 0) {
            return refusal;
        }
        int best = NONE;
        int least = 65;
        for (int i = 0; i < lines.size(); i++) {
            if (!shown.containsKey(i)) {
                int greatest = endsOf(i).values().stream().mapToInt(n -> n).max().orElse(0);
                if (greatest < least) {
                    best = i;
                    least = greatest;
                }
            }
        }
        return best;
    }

    int odd(int thing) {
        if (!isThing(thing)) {
            return BAD;
        }
        int refusal = refusal();
        return refusal != 0 ? refusal : isOdd(thing) ? 1 : 0;
    }

    int slips() {
        int refusal = refusal();
        if (refusal != NONE) {
            return refusal;
        }
        int all = shown.keySet().stream().mapToInt(t -> 1 << t).sum();
        int best = all;
        for (int bits = 1; bits < all; bits++) {
            if ((bits & ~all) == 0 && Integer.bitCount(bits) < Integer.bitCount(best)
                && without(bits).counts[0] > 0) {
                best = bits;
            }
        }
        return best;
    }

    int state(int thing) {
        return isThing(thing) ? states.get(thing) : BAD;
    }

    int doing(int n) {
        if (n < 1 || n > 12) {
            return BAD;
        }
        int refusal = refusal();
        if (refusal != 0) {
            return refusal;
        }
        List<Integer> touched = new ArrayList<>();
        int done = 0;
        for (int i = 0; i < lines.size() && touched.size() < n; i++) {
            if (states.get(i) == 0) {
                touched.add(i);
                states.set(i, isOdd(i) ? 3 : 2);
                if (states.get(i) == 2) {
                    ends.put(i, madeBy(first(), lines.get(i)));
                    done++;
                }
            }
        }
        doings.push(touched);
        return done;
    }

    int back() {
        if (doings.isEmpty()) {
            return NONE;
        }
        int untouched = 0;
        for (int i : doings.pop()) {
            if (states.get(i) > 1) {
                states.set(i, 0);
                untouched++;
            }
        }
        return untouched;
    }

    int end(int thing, int i) {
        if (!isThing(thing) || i < -1) {
            return BAD;
        }
        int state = states.get(thing);
        return state == 1 || state == 2 ? byteOrSize(ends.get(thing), i) : NONE;
    }

    int otherwise() {
        int refusal = refusal();
        if (refusal != 0) {
            return refusal;
        }
        int bits = 0;
        for (int i = 0; i < lines.size(); i++) {
            if (states.get(i) == 2 && !ends.get(i).equals(madeBy(first(), lines.get(i)))) {
                bits |= 1 << i;
            }
        }
        return bits;
    }

    private int keepAlso(int[] program) {
        if (keptPrograms.size() == 4) {
            return FULL;
        }
        keptPrograms.add(program);
        return keptPrograms.size() - 1;
    }

    int keep() {
        int refusal = refusal();
        return refusal != 0 ? refusal : keepAlso(first());
    }

    private static final String PLACE = "(?:[fe][0-7]|[ba][dwcs][12z])";
    private static final String CUT = "(?:" + PLACE + "," + PLACE + "[ul]?)";
    private static final String SAID = "(?:\"[^\"]{1,3}\")";
    private static final String PIECE = "(?:" + CUT + "|" + SAID + ")";
    private static final Pattern PROGRAM = Pattern.compile(
        "(" + PIECE + ")|(" + PIECE + ")\\+(" + PIECE + ")|(" + PIECE + ")\\+(" + SAID + ")\\+(" + PIECE + ")");

    int text() {
        String raw = takeTape();
        StringBuilder bare = new StringBuilder();
        List<Integer> where = new ArrayList<>();
        boolean quoted = false;
        for (int i = 0; i < raw.length(); i++) {
            char c = raw.charAt(i);
            if (c == '"') {
                quoted = !quoted;
            }
            if (c != ' ' || quoted) {
                bare.append(c);
                where.add(i);
            }
        }
        for (int i = 1; i <= bare.length(); i++) {
            Matcher start = PROGRAM.matcher(bare.substring(0, i));
            if (!start.matches() && !start.hitEnd()) {
                return -20 - where.get(i - 1);
            }
        }
        Matcher whole = PROGRAM.matcher(bare);
        if (!whole.matches()) {
            return -20 - raw.length();
        }
        List<Integer> pieces = new ArrayList<>();
        for (int g = 1; g <= whole.groupCount(); g++) {
            if (whole.group(g) != null) {
                pieces.add(pieceOfText(whole.group(g)));
            }
        }
        return keepAlso(pieces.stream().mapToInt(p -> p).toArray());
    }

    private static int pieceOfText(String text) {
        if (text.startsWith("\"")) {
            return typedNumber(text.substring(1, text.length() - 1));
        }
        int turn = text.endsWith("u") ? 1 : text.endsWith("l") ? 2 : 0;
        String[] places = (turn == 0 ? text : text.substring(0, text.length() - 1)).split(",");
        return 120 * placeOfText(places[0]) + 3 * placeOfText(places[1]) + turn;
    }

    private static int placeOfText(String text) {
        char c = text.charAt(0);
        if (c == 'f' || c == 'e') {
            return (c == 'f' ? 0 : 8) + text.charAt(1) - '0';
        }
        return 16 + 6 * "dwcs".indexOf(text.charAt(1)) + (c == 'a' ? 3 : 0) + "12z".indexOf(text.charAt(2));
    }

    int kept(int program, int what) {
        return program < 0 || program >= keptPrograms.size() ? BAD : tell(keptPrograms.get(program), what);
    }

    int run(int program, int thing, int i) {
        if (program < 0 || program >= keptPrograms.size() || !isThing(thing) || i < -1) {
            return BAD;
        }
        String made = madeBy(keptPrograms.get(program), lines.get(thing));
        return made == null ? NONE : byteOrSize(made, i);
    }

    int count(int what) {
        return what == 0 ? lines.size() : what == 4 ? keptPrograms.size()
            : what < 0 || what > 4 ? BAD : (int) states.stream().filter(s -> s == what).count();
    }

    private int machine(int sheet, int lane) {
        return sheetItems[sheet] == null ? NULL : sheetLanes[sheet] != lane ? CAST : 0;
    }

    int sheet(int sheet, int lane, int n) {
        if (sheet < 0 || sheet > 3 || lane < 0 || lane > 2 || n > 20) {
            return BAD;
        }
        if (n < 0) {
            return SIZE;
        }
        sheetItems[sheet] = new int[n];
        sheetLanes[sheet] = lane;
        return n;
    }

    int drop(int sheet) {
        if (sheet < 0 || sheet > 3) {
            return BAD;
        }
        if (sheetItems[sheet] == null) {
            return NULL;
        }
        int had = sheetItems[sheet].length;
        sheetItems[sheet] = null;
        return had;
    }

    int item(int sheet, int lane, int i, int v) {
        if (sheet < 0 || sheet > 3 || lane < 0 || lane > 2) {
            return BAD;
        }
        int machine = machine(sheet, lane);
        if (machine != 0) {
            return machine;
        }
        if (i < 0 || i >= sheetItems[sheet].length) {
            return INDEX;
        }
        sheetItems[sheet][i] = lane == 0 ? (byte) v : lane == 1 ? (short) v : v;
        return 1;
    }

    int put(int thing, int cut, int sheet, int lane, int from) {
        if (!isThing(thing) || cut < 0 || cut > 4799 || sheet < 0 || sheet > 3 || lane < 0 || lane > 2) {
            return BAD;
        }
        int machine = machine(sheet, lane);
        if (machine != 0) {
            return machine;
        }
        String made = cutOf(lines.get(thing), cut);
        if (made == null) {
            return NONE;
        }
        if (from < 0 || (long) from + made.length() > sheetItems[sheet].length) {
            return INDEX;
        }
        for (int i = 0; i < made.length(); i++) {
            sheetItems[sheet][from + i] = made.charAt(i);
        }
        return made.length();
    }

    // ---- what a chooser of calls wants to know

    int things() {
        return lines.size();
    }

    boolean hasSheet(int sheet) {
        return sheetItems[sheet] != null;
    }

    String lineOf(int thing) {
        return lines.get(thing);
    }
}
