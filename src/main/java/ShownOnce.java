import java.util.Arrays;

/**
 * Shown once, done for all: of what somebody showed, all programs that make just that are kept
 * at once, counted, and the first of them are used on other things.
 */
public final class ShownOnce {
    public static final int BAD = -1, NOT = -2, FULL = -3, NONE = -4, NULL = -11, CAST = -12, INDEX = -13, SIZE = -14;

    private static final int MOST_THINGS = 12, MOST_SHOWN = 4, MOST_KEPT = 4, MOST_CALLS = 512;
    private static final int LINE_BYTES = 16, SHOWN_BYTES = 12, TAPE_BYTES = 60;
    // Two cuts of a whole line and three typed bytes between them.
    private static final int END_BYTES = 2 * LINE_BYTES + 3;
    private static final int PLACES = 40, CUTS = 4800, FIRST_RUN_PLACE = 16;
    private static final int TYPED = 1 << 24;
    private static final int UNTOUCHED = 0, SHOWN = 1, DONE = 2, ASIDE = 3;
    private static final int SHEETS = 4, LANES = 3, MOST_ITEMS = 20;
    private static final int FAULT = -20;
    private static final int UNKNOWN = -1;

    private final Row tape = new Row(TAPE_BYTES);
    private final Row scratch = new Row(END_BYTES);
    private final Thing[] things = new Thing[MOST_THINGS];
    private int thingCount = 0;
    private final Fit fit = new Fit();
    private boolean fitIsFresh = false;
    private int slipBits = UNKNOWN;
    private final Tally tally = new Tally();
    private final int[] doings = new int[MOST_CALLS];
    private int doingCount = 0;
    private final Program[] programs = new Program[MOST_KEPT];
    private int programCount = 0;
    private final TextReader reader = new TextReader();
    private final Sheet[] sheets = new Sheet[SHEETS];

    public ShownOnce() {
        for (int i = 0; i < MOST_THINGS; i++) {
            things[i] = new Thing();
        }
        for (int i = 0; i < MOST_KEPT; i++) {
            programs[i] = new Program();
        }
        for (int i = 0; i < SHEETS; i++) {
            sheets[i] = new Sheet();
        }
    }

    // ---- 1 things, places, pieces

    public int type(long w, int n) {
        if (n < 1 || n > 8) {
            return BAD;
        }
        for (int i = 0; i < n; i++) {
            if (!isLineByte(byteOf(w, i))) {
                return BAD;
            }
        }
        if (tape.size + n > TAPE_BYTES) {
            return FULL;
        }
        for (int i = n - 1; i >= 0; i--) {
            tape.add(byteOf(w, i));
        }
        return tape.size;
    }

    public int thing() {
        int answer = tape.size < 1 || tape.size > LINE_BYTES ? NOT : addThing(tape);
        tape.clear();
        return answer;
    }

    public int line(int sheet, int lane, int from, int n) {
        if (!isSheet(sheet) || !isLane(lane) || n < 1 || n > LINE_BYTES) {
            return BAD;
        }
        Sheet s = sheets[sheet];
        int refusal = s.refusalOf(lane);
        if (refusal != 0) {
            return refusal;
        }
        if (!s.holds(from, n)) {
            return INDEX;
        }
        scratch.clear();
        for (int i = from; i < from + n; i++) {
            if (!isLineByte(s.items[i])) {
                return NOT;
            }
            scratch.add(s.items[i]);
        }
        return addThing(scratch);
    }

    public int byteAt(int thing, int i) {
        return isThing(thing) ? things[thing].line.told(i) : BAD;
    }

    public int place(int thing, int place) {
        if (!isThing(thing) || place < 0 || place >= PLACES) {
            return BAD;
        }
        int at = things[thing].places[place];
        return at < 0 ? NONE : at;
    }

    public int made(int thing, int cut, int i) {
        if (!isThing(thing) || !isCut(cut) || i < -1) {
            return BAD;
        }
        scratch.clear();
        return things[thing].cutInto(cut, scratch) ? scratch.told(i) : NONE;
    }

    // ---- 2 showing

    public int show(int thing) {
        if (!isThing(thing)) {
            return BAD;
        }
        int answer = showTapeOf(things[thing]);
        tape.clear();
        return answer;
    }

    public int forget(int thing) {
        if (!isThing(thing)) {
            return BAD;
        }
        if (things[thing].state != SHOWN) {
            return NOT;
        }
        things[thing].state = UNTOUCHED;
        showingChanged();
        return howMany(SHOWN);
    }

    public long fitting(int n) {
        if (n < 0 || n > 3) {
            return BAD;
        }
        if (fitRefusal() == NOT) {
            return NOT;
        }
        return fit.howMany(n);
    }

    public int shortest(int what) {
        if (what < 0 || what > 4) {
            return BAD;
        }
        int refusal = fitRefusal();
        return refusal != 0 ? refusal : fit.nearest[0].told(what);
    }

    public int paper(int thing, int i) {
        if (!isThing(thing) || i < -1) {
            return BAD;
        }
        int refusal = fitRefusal();
        if (refusal != 0) {
            return refusal;
        }
        return fit.nearest[0].makeOf(things[thing], scratch) ? scratch.told(i) : NONE;
    }

    public int differs(int thing) {
        if (!isThing(thing)) {
            return BAD;
        }
        int refusal = fitRefusal();
        if (refusal != 0) {
            return refusal;
        }
        tally.take(fit, things[thing]);
        return tally.ends;
    }

    public int settle() {
        int refusal = fitRefusal();
        if (refusal != 0) {
            return refusal;
        }
        int best = NONE;
        int least = 0;
        for (int i = 0; i < thingCount; i++) {
            if (things[i].state == SHOWN) {
                continue;
            }
            tally.take(fit, things[i]);
            int greatest = tally.greatest();
            if (best == NONE || greatest < least) {
                best = i;
                least = greatest;
            }
        }
        return best;
    }

    public int odd(int thing) {
        if (!isThing(thing)) {
            return BAD;
        }
        int refusal = fitRefusal();
        if (refusal != 0) {
            return refusal;
        }
        return makesOddEnd(things[thing]) ? 1 : 0;
    }

    public int slips() {
        int refusal = fitRefusal();
        if (refusal == NOT) {
            return NOT;
        }
        if (refusal == 0) {
            return 0;
        }
        if (slipBits == UNKNOWN) {
            slipBits = leastSlips();
        }
        return slipBits;
    }

    // ---- 3 doing

    public int state(int thing) {
        return isThing(thing) ? things[thing].state : BAD;
    }

    public int doing(int n) {
        if (n < 1 || n > MOST_THINGS) {
            return BAD;
        }
        int refusal = fitRefusal();
        if (refusal != 0) {
            return refusal;
        }
        int touched = 0;
        int done = 0;
        for (int i = 0; i < thingCount && Integer.bitCount(touched) < n; i++) {
            if (things[i].state == UNTOUCHED) {
                touched |= 1 << i;
                done += becomesDone(things[i]) ? 1 : 0;
            }
        }
        rememberDoing(touched);
        return done;
    }

    public int back() {
        if (doingCount == 0) {
            return NONE;
        }
        doingCount--;
        int touched = doings[doingCount];
        int untouched = 0;
        for (int i = 0; i < thingCount; i++) {
            Thing x = things[i];
            if ((touched >> i & 1) == 1 && (x.state == DONE || x.state == ASIDE)) {
                x.state = UNTOUCHED;
                untouched++;
            }
        }
        return untouched;
    }

    public int end(int thing, int i) {
        if (!isThing(thing) || i < -1) {
            return BAD;
        }
        Thing x = things[thing];
        return x.state == DONE || x.state == SHOWN ? x.end.told(i) : NONE;
    }

    public int otherwise() {
        int refusal = fitRefusal();
        if (refusal != 0) {
            return refusal;
        }
        int bits = 0;
        for (int i = 0; i < thingCount; i++) {
            Thing x = things[i];
            if (x.state != DONE) {
                continue;
            }
            boolean makes = fit.nearest[0].makeOf(x, scratch);
            if (!makes || !scratch.isLike(x.end)) {
                bits |= 1 << i;
            }
        }
        return bits;
    }

    public int keep() {
        int refusal = fitRefusal();
        if (refusal != 0) {
            return refusal;
        }
        return keepProgram(fit.nearest[0]);
    }

    public int text() {
        int faultAt = reader.read(tape);
        tape.clear();
        return faultAt >= 0 ? FAULT - faultAt : keepProgram(reader.program);
    }

    public int kept(int program, int what) {
        return isProgram(program) ? programs[program].told(what) : BAD;
    }

    public int run(int program, int thing, int i) {
        if (!isProgram(program) || !isThing(thing) || i < -1) {
            return BAD;
        }
        return programs[program].makeOf(things[thing], scratch) ? scratch.told(i) : NONE;
    }

    public int count(int what) {
        switch (what) {
            case 0:
                return thingCount;
            case SHOWN:
            case DONE:
            case ASIDE:
                return howMany(what);
            case 4:
                return programCount;
            default:
                return BAD;
        }
    }

    // ---- 4 sheets

    public int sheet(int sheet, int lane, int n) {
        if (!isSheet(sheet) || !isLane(lane) || n > MOST_ITEMS) {
            return BAD;
        }
        if (n < 0) {
            return SIZE;
        }
        sheets[sheet].renew(lane, n);
        return n;
    }

    public int drop(int sheet) {
        if (!isSheet(sheet)) {
            return BAD;
        }
        Sheet s = sheets[sheet];
        if (!s.isThere()) {
            return NULL;
        }
        int had = s.size;
        s.vanish();
        return had;
    }

    public int item(int sheet, int lane, int i, int v) {
        if (!isSheet(sheet) || !isLane(lane)) {
            return BAD;
        }
        Sheet s = sheets[sheet];
        int refusal = s.refusalOf(lane);
        if (refusal != 0) {
            return refusal;
        }
        if (!s.holds(i, 1)) {
            return INDEX;
        }
        s.write(i, v);
        return 1;
    }

    public int put(int thing, int cut, int sheet, int lane, int from) {
        if (!isThing(thing) || !isCut(cut) || !isSheet(sheet) || !isLane(lane)) {
            return BAD;
        }
        Sheet s = sheets[sheet];
        int refusal = s.refusalOf(lane);
        if (refusal != 0) {
            return refusal;
        }
        scratch.clear();
        if (!things[thing].cutInto(cut, scratch)) {
            return NONE;
        }
        if (!s.holds(from, scratch.size)) {
            return INDEX;
        }
        for (int i = 0; i < scratch.size; i++) {
            s.write(from + i, scratch.bytes[i]);
        }
        return scratch.size;
    }

    // ---- what the calls share

    private boolean isThing(int thing) {
        return thing >= 0 && thing < thingCount;
    }

    private boolean isProgram(int program) {
        return program >= 0 && program < programCount;
    }

    private static boolean isCut(int cut) {
        return cut >= 0 && cut < CUTS;
    }

    private static boolean isSheet(int sheet) {
        return sheet >= 0 && sheet < SHEETS;
    }

    private static boolean isLane(int lane) {
        return lane >= 0 && lane < LANES;
    }

    private static boolean isLineByte(int b) {
        return b >= 32 && b <= 126;
    }

    private static int byteOf(long w, int i) {
        return (int) (w >>> 8 * i) & 255;
    }

    private int addThing(Row line) {
        if (thingCount >= MOST_THINGS) {
            return FULL;
        }
        Thing x = things[thingCount];
        x.line.copyOf(line);
        x.findPlaces();
        thingCount++;
        return thingCount - 1;
    }

    private int showTapeOf(Thing x) {
        if (tape.size < 1 || tape.size > SHOWN_BYTES) {
            return NOT;
        }
        if (x.state != SHOWN && howMany(SHOWN) >= MOST_SHOWN) {
            return FULL;
        }
        x.end.copyOf(tape);
        x.state = SHOWN;
        x.compareSpans();
        showingChanged();
        return howMany(SHOWN);
    }

    private int howMany(int state) {
        int n = 0;
        for (int i = 0; i < thingCount; i++) {
            if (things[i].state == state) {
                n++;
            }
        }
        return n;
    }

    private void showingChanged() {
        fitIsFresh = false;
        slipBits = UNKNOWN;
    }

    /** NOT if nothing is shown, NONE if nothing is fitting, else 0 with the nearest at hand. */
    private int fitRefusal() {
        if (howMany(SHOWN) == 0) {
            return NOT;
        }
        if (!fitIsFresh) {
            measureWithout(0);
            fit.rank();
            fitIsFresh = true;
        }
        return fit.howMany(0) == 0 ? NONE : 0;
    }

    private void measureWithout(int leftOut) {
        fit.clear();
        for (int i = 0; i < thingCount; i++) {
            if (things[i].state == SHOWN && (leftOut >> i & 1) == 0) {
                fit.take(things[i]);
            }
        }
        fit.measure();
    }

    private int leastSlips() {
        int shown = 0;
        for (int i = 0; i < thingCount; i++) {
            if (things[i].state == SHOWN) {
                shown |= 1 << i;
            }
        }
        int all = Integer.bitCount(shown);
        // The tables of the fit are those of a trial from here on.
        fitIsFresh = false;
        for (int size = 1; size < all; size++) {
            for (int order = 1; order < 1 << all; order++) {
                if (Integer.bitCount(order) != size) {
                    continue;
                }
                int leftOut = spread(order, shown);
                measureWithout(leftOut);
                if (fit.howMany(0) > 0) {
                    return leftOut;
                }
            }
        }
        // With nothing shown every program fits.
        return shown;
    }

    /** The lowest bits of order, laid on the bits of places one after the other. */
    private static int spread(int order, int places) {
        int bits = 0;
        int next = 0;
        for (int i = 0; i < MOST_THINGS; i++) {
            if ((places >> i & 1) == 1) {
                bits |= (order >> next & 1) << i;
                next++;
            }
        }
        return bits;
    }

    /** Leaves what the shortest makes in scratch. */
    private boolean makesOddEnd(Thing x) {
        if (!fit.nearest[0].makeOf(x, scratch)) {
            return true;
        }
        int shape = Kinds.shapeOf(scratch);
        for (int i = 0; i < thingCount; i++) {
            if (things[i].state == SHOWN && Kinds.shapeOf(things[i].end) == shape) {
                return false;
            }
        }
        return true;
    }

    /** Or else it is set aside. */
    private boolean becomesDone(Thing x) {
        if (makesOddEnd(x)) {
            x.state = ASIDE;
            return false;
        }
        x.state = DONE;
        x.end.copyOf(scratch);
        return true;
    }

    private void rememberDoing(int touched) {
        if (doingCount < MOST_CALLS) {
            doings[doingCount] = touched;
            doingCount++;
        }
    }

    private int keepProgram(Program p) {
        if (programCount >= MOST_KEPT) {
            return FULL;
        }
        programs[programCount].copyOf(p);
        programCount++;
        return programCount - 1;
    }

    /** Bytes that are filled in again and again, so that no call makes new ones. */
    private static final class Row {
        final byte[] bytes;
        int size;

        Row(int room) {
            bytes = new byte[room];
            size = 0;
        }

        void clear() {
            size = 0;
        }

        void add(int b) {
            if (size < bytes.length) {
                bytes[size] = (byte) b;
                size++;
            }
        }

        /** Byte i, the size for -1. */
        int told(int i) {
            if (i == -1) {
                return size;
            }
            return i >= 0 && i < size ? bytes[i] : BAD;
        }

        void copyOf(Row other) {
            clear();
            for (int i = 0; i < other.size; i++) {
                add(other.bytes[i]);
            }
        }

        boolean isLike(Row other) {
            if (size != other.size) {
                return false;
            }
            for (int i = 0; i < size; i++) {
                if (bytes[i] != other.bytes[i]) {
                    return false;
                }
            }
            return true;
        }
    }

    /** What kinds bytes are of. */
    private static final class Kinds {
        private static final int DIGITS = 0, LETTERS = 1, CAPITALS = 2, SIGNS = 3;
        private static final int LIKE_NO_SHOWN = -1;

        static boolean isDigit(int b) {
            return b >= '0' && b <= '9';
        }

        static boolean isCapital(int b) {
            return b >= 'A' && b <= 'Z';
        }

        static boolean isSmall(int b) {
            return b >= 'a' && b <= 'z';
        }

        static boolean isOfRun(int kind, int b) {
            switch (kind) {
                case DIGITS:
                    return isDigit(b);
                case LETTERS:
                    return isCapital(b) || isSmall(b);
                case CAPITALS:
                    return isCapital(b);
                default:
                    return !isDigit(b) && !isCapital(b) && !isSmall(b);
            }
        }

        static int turned(int turn, int b) {
            if (turn == 1 && isSmall(b)) {
                return b - 'a' + 'A';
            }
            if (turn == 2 && isCapital(b)) {
                return b - 'A' + 'a';
            }
            return b;
        }

        /** In shapes, unlike in runs, letters are the small ones alone. */
        static int shapeKindOf(int b) {
            if (isDigit(b)) {
                return DIGITS;
            }
            if (isSmall(b)) {
                return LETTERS;
            }
            return isCapital(b) ? CAPITALS : SIGNS;
        }

        /** Two bits a kind behind a one; what is longer than all shown ends is like none of them. */
        static int shapeOf(Row row) {
            int shape = 1;
            int kinds = 0;
            int before = -1;
            for (int i = 0; i < row.size; i++) {
                int kind = shapeKindOf(row.bytes[i]);
                if (kind == before) {
                    continue;
                }
                if (kinds == SHOWN_BYTES) {
                    return LIKE_NO_SHOWN;
                }
                shape = shape << 2 | kind;
                kinds++;
                before = kind;
            }
            return shape;
        }
    }

    /** A line with its places, how it is, and its end if it is done or shown. */
    private static final class Thing {
        private static final int POSITIONS = LINE_BYTES + 1;

        final Row line = new Row(LINE_BYTES);
        final int[] places = new int[PLACES];
        final Row end = new Row(END_BYTES);
        int state = UNTOUCHED;
        // For two positions: a bit each turn whose bytes between begin the end, then whose close it.
        final byte[] spans = new byte[POSITIONS * POSITIONS];

        void findPlaces() {
            int size = line.size;
            for (int i = 0; i < 8; i++) {
                places[i] = i <= size ? i : -1;
                places[8 + i] = i <= size ? size - i : -1;
            }
            for (int kind = Kinds.DIGITS; kind <= Kinds.SIGNS; kind++) {
                findRuns(kind, FIRST_RUN_PLACE + 6 * kind);
            }
        }

        private void findRuns(int kind, int base) {
            for (int i = 0; i < 6; i++) {
                places[base + i] = -1;
            }
            int runs = 0;
            int i = 0;
            while (i < line.size) {
                int from = i;
                i++;
                if (!Kinds.isOfRun(kind, line.bytes[from])) {
                    continue;
                }
                while (kind != Kinds.SIGNS && i < line.size && Kinds.isOfRun(kind, line.bytes[i])) {
                    i++;
                }
                if (runs < 2) {
                    setRun(base + runs, from, i);
                }
                setRun(base + 2, from, i);
                runs++;
            }
        }

        private void setRun(int place, int from, int to) {
            places[place] = from;
            places[place + 3] = to;
        }

        boolean cutInto(int cut, Row out) {
            int from = places[cut / 120];
            int to = places[cut / 3 % PLACES];
            if (from < 0 || to <= from) {
                return false;
            }
            int turn = cut % 3;
            for (int i = from; i < to; i++) {
                out.add(Kinds.turned(turn, line.bytes[i]));
            }
            return true;
        }

        void compareSpans() {
            Arrays.fill(spans, (byte) 0);
            for (int turn = 0; turn < 3; turn++) {
                for (int at = 0; at <= line.size; at++) {
                    markBeginnings(turn, at);
                    markClosings(turn, at);
                }
            }
        }

        private void markBeginnings(int turn, int from) {
            for (int k = 0; k < end.size && from + k < line.size; k++) {
                if (Kinds.turned(turn, line.bytes[from + k]) != end.bytes[k]) {
                    return;
                }
                spans[from * POSITIONS + from + k + 1] |= 1 << turn;
            }
        }

        private void markClosings(int turn, int to) {
            for (int k = 1; k <= end.size && k <= to; k++) {
                if (Kinds.turned(turn, line.bytes[to - k]) != end.bytes[end.size - k]) {
                    return;
                }
                spans[(to - k) * POSITIONS + to] |= 8 << turn;
            }
        }

        int spanBits(int from, int to) {
            int a = places[from];
            int b = places[to];
            return a < 0 || b <= a ? 0 : spans[a * POSITIONS + b];
        }
    }

    /** One to three pieces. */
    private static final class Program {
        private final int[] pieces = new int[3];
        private int size = 0;

        static int costOf(int piece) {
            if (piece >= TYPED) {
                return 2 + piece / TYPED;
            }
            return piece % 3 == 0 ? 4 : 5;
        }

        void clear() {
            size = 0;
        }

        void add(int piece) {
            if (size < 3) {
                pieces[size] = piece;
                size++;
            }
        }

        void copyOf(Program other) {
            clear();
            for (int i = 0; i < other.size; i++) {
                add(other.pieces[i]);
            }
        }

        boolean endsWithCut() {
            return size > 0 && pieces[size - 1] < TYPED;
        }

        int pieceCount() {
            return size;
        }

        /** The cost for 0, how many pieces for 1, their numbers from 2 on. */
        int told(int what) {
            if (what == 0) {
                int sum = 0;
                for (int i = 0; i < size; i++) {
                    sum += costOf(pieces[i]);
                }
                return sum;
            }
            if (what == 1) {
                return size;
            }
            return what >= 2 && what < 2 + size ? pieces[what - 2] : BAD;
        }

        /** Out is empty if it makes nothing. */
        boolean makeOf(Thing x, Row out) {
            out.clear();
            for (int i = 0; i < size; i++) {
                if (pieces[i] >= TYPED) {
                    writeTyped(pieces[i], out);
                } else if (!x.cutInto(pieces[i], out)) {
                    out.clear();
                    return false;
                }
            }
            return true;
        }

        private static void writeTyped(int piece, Row out) {
            for (int i = piece / TYPED - 1; i >= 0; i--) {
                out.add(piece >> 8 * i & 255);
            }
        }
    }

    /** Pieces that can close every shown end, by where they begin in the ends, then by cost, in order. */
    private static final class Lasts {
        private static final int STARTS = 1 << 4 * MOST_SHOWN;
        private static final int MOST_PIECES = CUTS + 3;
        // A start hangs on the two places of a cut, not on its turn.
        private static final int MOST_GROUPS = 1 + PLACES * PLACES + 3;

        private final short[] groupOf = new short[STARTS];
        private final int[] startOf = new int[MOST_GROUPS];
        private final int[] ways = new int[MOST_GROUPS];
        private final int[] heads = new int[3 * MOST_GROUPS];
        private final int[] tails = new int[3 * MOST_GROUPS];
        private int groups = 0;
        private final int[] pieces = new int[MOST_PIECES];
        private final int[] nexts = new int[MOST_PIECES];
        private int size = 0;

        void clear() {
            for (int i = 1; i <= groups; i++) {
                groupOf[startOf[i]] = 0;
            }
            groups = 0;
            size = 0;
        }

        void add(int start, int piece) {
            if (start < 0 || start >= STARTS || size >= MOST_PIECES) {
                return;
            }
            if (groupOf[start] == 0) {
                openGroup(start);
            }
            int group = groupOf[start];
            int list = 3 * group + Program.costOf(piece) - 3;
            pieces[size] = piece;
            nexts[size] = -1;
            if (heads[list] < 0) {
                heads[list] = size;
            } else {
                nexts[tails[list]] = size;
            }
            tails[list] = size;
            ways[group]++;
            size++;
        }

        private void openGroup(int start) {
            groups++;
            groupOf[start] = (short) groups;
            startOf[groups] = start;
            ways[groups] = 0;
            for (int i = 0; i < 3; i++) {
                heads[3 * groups + i] = -1;
            }
        }

        private int groupAt(int start) {
            return start < 0 || start >= STARTS ? 0 : groupOf[start];
        }

        int waysFrom(int start) {
            int group = groupAt(start);
            return group == 0 ? 0 : ways[group];
        }

        /** The first piece of a cost that begins there, -1 for none. */
        int headOf(int start, int cost) {
            int group = groupAt(start);
            return group == 0 || cost < 3 || cost > 5 ? -1 : heads[3 * group + cost - 3];
        }

        /** The next one of like start and cost, -1 for none. */
        int nextOf(int i) {
            return i < 0 || i >= size ? -1 : nexts[i];
        }

        int pieceAt(int i) {
            return i < 0 || i >= size ? NONE : pieces[i];
        }
    }

    /**
     * All fitting programs at once. Where a piece stops in the shown ends is one number, four bits
     * an end; pieces that begin the ends meet pieces that close them by that number, so that
     * programs are counted without being listed.
     */
    private static final class Fit {
        private static final int MOST_NEAREST = 64;
        private static final int LEAST_COST = 3, GREATEST_COST = 15;

        private final Thing[] shown = new Thing[MOST_SHOWN];
        private int shownCount = 0;
        // How far all ends go, and one byte of each of them.
        private int full = 0;
        private int step = 0;
        private final int[] commonPlaces = new int[PLACES];
        private int commonCount = 0;
        private final int[] firsts = new int[Lasts.MOST_PIECES];
        private final int[] stops = new int[Lasts.MOST_PIECES];
        // Bit 0: a last piece can follow at once; bit k: behind k typed bytes.
        private final byte[] followers = new byte[Lasts.MOST_PIECES];
        private int firstCount = 0;
        private final Lasts lasts = new Lasts();
        private final int[] wholes = new int[Lasts.MOST_PIECES];
        private int wholeCount = 0;
        private int pairs = 0;
        private int triples = 0;
        final Program[] nearest = new Program[MOST_NEAREST];
        int nearestCount = 0;

        Fit() {
            for (int i = 0; i < MOST_NEAREST; i++) {
                nearest[i] = new Program();
            }
        }

        void clear() {
            shownCount = 0;
            full = 0;
            step = 0;
            firstCount = 0;
            lasts.clear();
            wholeCount = 0;
            pairs = 0;
            triples = 0;
            nearestCount = 0;
        }

        void take(Thing x) {
            if (shownCount < MOST_SHOWN) {
                shown[shownCount] = x;
                full |= x.end.size << 4 * shownCount;
                step |= 1 << 4 * shownCount;
                shownCount++;
            }
        }

        /** How many programs of n pieces, for 0 of all. */
        int howMany(int n) {
            switch (n) {
                case 1:
                    return wholeCount;
                case 2:
                    return pairs;
                case 3:
                    return triples;
                default:
                    return wholeCount + pairs + triples;
            }
        }

        void measure() {
            findCommonPlaces();
            for (int i = 0; i < commonCount; i++) {
                for (int j = 0; j < commonCount; j++) {
                    addCuts(commonPlaces[i], commonPlaces[j]);
                }
            }
            // Behind the cuts, as their numbers are greater.
            for (int k = 1; k <= 3; k++) {
                addTyped(k);
            }
            joinPieces();
        }

        /** A cut makes something of all shown things only if both its places are in each of them. */
        private void findCommonPlaces() {
            commonCount = 0;
            for (int place = 0; place < PLACES; place++) {
                boolean common = true;
                for (int i = 0; i < shownCount && common; i++) {
                    common = shown[i].places[place] >= 0;
                }
                if (common) {
                    commonPlaces[commonCount] = place;
                    commonCount++;
                }
            }
        }

        private void addCuts(int from, int to) {
            int bits = 63;
            int width = 0;
            for (int i = 0; i < shownCount; i++) {
                Thing x = shown[i];
                bits &= x.spanBits(from, to);
                if (bits == 0) {
                    return;
                }
                width |= x.places[to] - x.places[from] << 4 * i;
            }
            int cut = 120 * from + 3 * to;
            for (int turn = 0; turn < 3; turn++) {
                if ((bits >> turn & 1) == 1) {
                    addFirst(cut + turn, width);
                }
                if ((bits >> 3 + turn & 1) == 1 && width != full) {
                    lasts.add(full - width, cut + turn);
                }
            }
        }

        private void addTyped(int k) {
            int piece = typedIn(0, k);
            if (piece != NONE) {
                addFirst(piece, k * step);
            }
            if (k < leastSize()) {
                int start = full - k * step;
                piece = typedIn(start, k);
                if (piece != NONE) {
                    lasts.add(start, piece);
                }
            }
        }

        private void addFirst(int piece, int stop) {
            if (stop == full && wholeCount < Lasts.MOST_PIECES) {
                wholes[wholeCount] = piece;
                wholeCount++;
            } else if (stop != full && firstCount < Lasts.MOST_PIECES) {
                firsts[firstCount] = piece;
                stops[firstCount] = stop;
                firstCount++;
            }
        }

        private int leastSize() {
            int least = SHOWN_BYTES;
            for (int i = 0; i < shownCount; i++) {
                least = Math.min(least, shown[i].end.size);
            }
            return least;
        }

        /** The typed piece of k bytes that stands there in all ends, NONE if they are unlike or too short. */
        private int typedIn(int start, int k) {
            int common = NONE;
            for (int i = 0; i < shownCount; i++) {
                Row end = shown[i].end;
                int from = start >> 4 * i & 15;
                if (from + k > end.size) {
                    return NONE;
                }
                int piece = k;
                for (int j = 0; j < 3; j++) {
                    // Of fewer bytes the last is the lowest.
                    int at = j - 3 + k;
                    piece = piece << 8 | (at < 0 ? 0 : end.bytes[from + at]);
                }
                if (i > 0 && piece != common) {
                    return NONE;
                }
                common = piece;
            }
            return common;
        }

        /** Counts, and keeps only first pieces that lead to the ends. */
        private void joinPieces() {
            int left = 0;
            for (int i = 0; i < firstCount; i++) {
                int stop = stops[i];
                int direct = lasts.waysFrom(stop);
                int bits = direct > 0 ? 1 : 0;
                pairs += direct;
                for (int k = 1; k <= 3; k++) {
                    int ways = lasts.waysFrom(stop + k * step);
                    if (ways > 0 && typedIn(stop, k) != NONE) {
                        bits |= 1 << k;
                        triples += ways;
                    }
                }
                if (bits != 0) {
                    firsts[left] = firsts[i];
                    stops[left] = stop;
                    followers[left] = (byte) bits;
                    left++;
                }
            }
            firstCount = left;
        }

        /** Finds the nearest: the order goes by cost, then by how many pieces, then by their numbers. */
        void rank() {
            for (int cost = LEAST_COST; cost <= GREATEST_COST && !isRanked(); cost++) {
                rankWholes(cost);
                for (int i = 0; i < firstCount && !isRanked(); i++) {
                    rankPairs(i, cost);
                }
                for (int i = 0; i < firstCount && !isRanked(); i++) {
                    rankTriples(i, cost);
                }
            }
        }

        private boolean isRanked() {
            return nearestCount >= MOST_NEAREST || nearestCount >= howMany(0);
        }

        private void rankWholes(int cost) {
            for (int i = 0; i < wholeCount && !isRanked(); i++) {
                if (Program.costOf(wholes[i]) == cost) {
                    nextNearest().add(wholes[i]);
                }
            }
        }

        private void rankPairs(int i, int cost) {
            if ((followers[i] & 1) == 0) {
                return;
            }
            int rest = cost - Program.costOf(firsts[i]);
            int j = lasts.headOf(stops[i], rest);
            for (int n = 0; n < MOST_NEAREST && j >= 0 && !isRanked(); n++) {
                Program p = nextNearest();
                p.add(firsts[i]);
                p.add(lasts.pieceAt(j));
                j = lasts.nextOf(j);
            }
        }

        private void rankTriples(int i, int cost) {
            for (int k = 1; k <= 3; k++) {
                if ((followers[i] >> k & 1) == 0) {
                    continue;
                }
                int rest = cost - Program.costOf(firsts[i]) - (2 + k);
                int j = lasts.headOf(stops[i] + k * step, rest);
                for (int n = 0; n < MOST_NEAREST && j >= 0 && !isRanked(); n++) {
                    Program p = nextNearest();
                    p.add(firsts[i]);
                    p.add(typedIn(stops[i], k));
                    p.add(lasts.pieceAt(j));
                    j = lasts.nextOf(j);
                }
            }
        }

        private Program nextNearest() {
            Program p = nearest[nearestCount];
            p.clear();
            nearestCount++;
            return p;
        }
    }

    /** Which ends the nearest make of a thing, and how many of them make each. */
    private static final class Tally {
        private final Row[] rows = new Row[Fit.MOST_NEAREST];
        private final int[] makers = new int[Fit.MOST_NEAREST];
        int ends = 0;

        Tally() {
            for (int i = 0; i < Fit.MOST_NEAREST; i++) {
                rows[i] = new Row(END_BYTES);
            }
        }

        void take(Fit fit, Thing x) {
            ends = 0;
            for (int i = 0; i < fit.nearestCount; i++) {
                // Nothing is an empty row, which no end is.
                fit.nearest[i].makeOf(x, rows[ends]);
                int like = likeLatest();
                if (like == ends) {
                    makers[ends] = 0;
                    ends++;
                }
                makers[like]++;
            }
        }

        private int likeLatest() {
            for (int i = 0; i < ends; i++) {
                if (rows[i].isLike(rows[ends])) {
                    return i;
                }
            }
            return ends;
        }

        int greatest() {
            int most = 0;
            for (int i = 0; i < ends; i++) {
                most = Math.max(most, makers[i]);
            }
            return most;
        }
    }

    /** Reads a program from its text. */
    private static final class TextReader {
        private static final int NO_FAULT = -1, WRONG = -1, AT_END = 0;
        private static final String KIND_SIGNS = "dwcs", WHICH_SIGNS = "12z";

        final Program program = new Program();
        private final Row told = new Row(TAPE_BYTES);
        private int at = 0;

        /** The place of the first byte that can't stand there, or -1. */
        int read(Row tape) {
            told.copyOf(tape);
            at = 0;
            program.clear();
            for (int i = 0; i < 3; i++) {
                if (!readPiece()) {
                    return at;
                }
                int sign = look();
                if (sign == AT_END) {
                    return NO_FAULT;
                }
                if (sign != '+' || !canGoOn()) {
                    return at;
                }
                at++;
            }
            return at;
        }

        /** A second piece that is a cut is the last one. */
        private boolean canGoOn() {
            int pieces = program.pieceCount();
            return pieces == 1 || pieces == 2 && !program.endsWithCut();
        }

        /** The next byte that is no blank, where at stays. */
        private int look() {
            while (at < told.size && told.bytes[at] == ' ') {
                at++;
            }
            return at < told.size ? told.bytes[at] : AT_END;
        }

        private boolean readPiece() {
            if (look() == '"') {
                at++;
                return readTyped();
            }
            return readCut();
        }

        private boolean readTyped() {
            int bytes = 0;
            for (int n = 0; n <= 3 && at < told.size; n++) {
                int b = told.bytes[at];
                if (b == '"') {
                    if (n == 0) {
                        return false;
                    }
                    at++;
                    program.add(n * TYPED + bytes);
                    return true;
                }
                if (n == 3) {
                    return false;
                }
                bytes = bytes << 8 | b;
                at++;
            }
            return false;
        }

        private boolean readCut() {
            int from = readPlace();
            if (from == WRONG || look() != ',') {
                return false;
            }
            at++;
            int to = readPlace();
            if (to == WRONG) {
                return false;
            }
            program.add(120 * from + 3 * to + readTurn());
            return true;
        }

        private int readTurn() {
            int sign = look();
            if (sign != 'u' && sign != 'l') {
                return 0;
            }
            at++;
            return sign == 'u' ? 1 : 2;
        }

        private int readPlace() {
            int sign = look();
            if (sign == 'f' || sign == 'e') {
                at++;
                return readDistance(sign == 'f' ? 0 : 8);
            }
            if (sign == 'b' || sign == 'a') {
                at++;
                return readRun(sign == 'b' ? 0 : 3);
            }
            return WRONG;
        }

        private int readDistance(int base) {
            int sign = look();
            if (sign < '0' || sign > '7') {
                return WRONG;
            }
            at++;
            return base + sign - '0';
        }

        private int readRun(int side) {
            int kind = KIND_SIGNS.indexOf((char) look());
            if (kind < 0) {
                return WRONG;
            }
            at++;
            int which = WHICH_SIGNS.indexOf((char) look());
            if (which < 0) {
                return WRONG;
            }
            at++;
            return FIRST_RUN_PLACE + 6 * kind + side + which;
        }
    }

    /** Nothing, or a row of a lane. */
    private static final class Sheet {
        private static final int MISSING = -1;

        final int[] items = new int[MOST_ITEMS];
        int size = 0;
        private int lane = MISSING;

        boolean isThere() {
            return lane != MISSING;
        }

        void renew(int newLane, int n) {
            lane = newLane;
            size = n;
            Arrays.fill(items, 0);
        }

        void vanish() {
            lane = MISSING;
            size = 0;
        }

        /** What the machine would find when the row is taken as one of a lane, or 0. */
        int refusalOf(int takenAs) {
            if (lane == MISSING) {
                return NULL;
            }
            return lane == takenAs ? 0 : CAST;
        }

        boolean holds(int from, int n) {
            return from >= 0 && from <= size - n;
        }

        void write(int i, int v) {
            if (lane == 0) {
                items[i] = (byte) v;
            } else if (lane == 1) {
                items[i] = (short) v;
            } else {
                items[i] = v;
            }
        }
    }
}
