import java.util.function.IntToLongFunction;

/** Of each number that a call takes: the last that is as told and the first that is not, on both sides. */
public final class BoundsTest {
    private static final Check check = new Check();
    private static final int ALL = 24;
    private static final String SIXTEEN = "abcdefghijklmnop";
    private static final int BAD = ShownOnce.BAD, NOT = ShownOnce.NOT, FULL = ShownOnce.FULL, NONE = ShownOnce.NONE;
    private static final int NULL = ShownOnce.NULL, CAST = ShownOnce.CAST, INDEX = ShownOnce.INDEX, SIZE = ShownOnce.SIZE;

    public static void main(String[] args) {
        typeNumbers();
        typeBytes();
        typeFull();
        thingSizes();
        thingFull();
        lineNumbers();
        lineItems();
        byteAtNumbers();
        placeNumbers();
        madeNumbers();
        showNumbers();
        forgetNumbers();
        fittingNumbers();
        shortestNumbers();
        paperNumbers();
        differsAndOddNumbers();
        settleNothing();
        doingNumbers();
        manyDoings();
        endNumbers();
        keptNumbers();
        runNumbers();
        stateAndCountNumbers();
        sheetNumbers();
        dropNumbers();
        itemNumbers();
        itemLowestBits();
        putNumbers();
        check.close("BoundsTest");
    }

    /** From low to high a number is as told; of the others each answers the refusal. */
    private static void bounds(String what, IntToLongFunction call, int low, int high, long refusal) {
        for (int i = low; i <= high; i++) {
            check.due(what + " " + i + " is as told", call.applyAsLong(i) == refusal ? 1 : 0, 0);
        }
        below(what, call, low, refusal);
        above(what, call, high, refusal);
    }

    private static void below(String what, IntToLongFunction call, int low, long refusal) {
        for (int far : new int[] {1, 2, 256, 65536}) {
            check.due(what + " " + (low - far), call.applyAsLong(low - far), refusal);
        }
        check.due(what + " least", call.applyAsLong(Integer.MIN_VALUE), refusal);
        check.due(what + " least but one", call.applyAsLong(Integer.MIN_VALUE + 1), refusal);
    }

    private static void above(String what, IntToLongFunction call, int high, long refusal) {
        for (int far : new int[] {1, 2, 256, 65536}) {
            check.due(what + " " + (high + far), call.applyAsLong(high + far), refusal);
        }
        check.due(what + " greatest", call.applyAsLong(Integer.MAX_VALUE), refusal);
        check.due(what + " greatest but one", call.applyAsLong(Integer.MAX_VALUE - 1), refusal);
    }

    // ---- 1 things, places, pieces

    private static void typeNumbers() {
        bounds("type n", n -> new ShownOnce().type(Check.word("ABCDEFGH"), n), 1, 8, BAD);
        for (int n = 1; n <= 8; n++) {
            ShownOnce x = new ShownOnce();
            check.due("type " + n, x.type(Check.word("ABCDEFGH"), n), n);
            x.thing();
            check.due("the lowest, of these the highest first", Check.spell(i -> x.byteAt(0, i)), "ABCDEFGH".substring(8 - n));
        }
    }

    /** "BAD: .. a byte not 32 .. 126", wherever it stands among the n lowest. */
    private static void typeBytes() {
        long good = Check.word("ABCDEFGH");
        for (int at = 0; at < 8; at++) {
            long rest = good & ~(255L << 8 * at);
            for (int b = 0; b < 256; b++) {
                boolean fits = b >= 32 && b <= 126;
                long w = rest | (long) b << 8 * at;
                check.due("byte " + b + " at " + at, new ShownOnce().type(w, 8), fits ? 8 : BAD);
                if (at > 0) {
                    check.due("byte " + b + " above", new ShownOnce().type(w, at), at);
                }
            }
        }
        check.due("least", new ShownOnce().type(Long.MIN_VALUE, 1), BAD);
        check.due("least and a byte", new ShownOnce().type(Long.MIN_VALUE | 65, 1), 1);
        check.due("-1", new ShownOnce().type(-1, 1), BAD);
        check.due("greatest", new ShownOnce().type(Long.MAX_VALUE, 8), BAD);
        check.due("an int's worth above", new ShownOnce().type(1L << 32 | 65, 1), 1);
        check.due("the fifth byte counts", new ShownOnce().type(1L << 32 | 0x41414141, 5), BAD);
    }

    /** "FULL: 60" */
    private static void typeFull() {
        for (int had = 52; had <= 60; had++) {
            for (int n = 1; n <= 8; n++) {
                ShownOnce x = new ShownOnce();
                Check.typeAll(x, "a".repeat(had));
                boolean fits = had + n <= 60;
                int has = fits ? had + n : had;
                check.due(had + " and " + n, x.type(Check.word("BCDEFGHI"), n), fits ? has : FULL);
                check.due("then one more", x.type(65, 1), has < 60 ? has + 1 : FULL);
            }
        }
    }

    /** "NOT: it has 0, more than 16 bytes" */
    private static void thingSizes() {
        for (int size = 0; size <= 60; size++) {
            ShownOnce x = new ShownOnce();
            boolean fits = size >= 1 && size <= 16;
            check.due("a thing of " + size, Check.thingOf(x, "a".repeat(size)), fits ? 0 : NOT);
            check.due("there are", x.count(0), fits ? 1 : 0);
            check.due("the tape is empty then", x.type(65, 1), 1);
            check.due("its length", x.byteAt(0, -1), fits ? size : BAD);
        }
    }

    /** "FULL: 12 THINGS" */
    private static void thingFull() {
        ShownOnce x = new ShownOnce();
        for (int i = 0; i < 12; i++) {
            check.due("thing " + i, Check.thingOf(x, "t"), i);
        }
        check.due("a 13th", Check.thingOf(x, "t"), FULL);
        check.due("the tape is empty then", x.thing(), NOT);
        check.due("a 13th again", Check.thingOf(x, "t"), FULL);
        check.due("there are", x.count(0), 12);
    }

    /** Sheet s holds 20 letters in lane s % 3. */
    private static ShownOnce withSheets() {
        ShownOnce x = new ShownOnce();
        for (int s = 0; s < 4; s++) {
            x.sheet(s, s % 3, 20);
            for (int i = 0; i < 20; i++) {
                x.item(s, s % 3, i, 'a' + i);
            }
        }
        return x;
    }

    private static void lineNumbers() {
        bounds("line sheet", s -> withSheets().line(s, s >= 0 && s < 4 ? s % 3 : 0, 0, 1), 0, 3, BAD);
        bounds("line lane", l -> withSheets().line(l >= 0 && l < 3 ? l : 0, l, 0, 1), 0, 2, BAD);
        bounds("line n", n -> withSheets().line(2, 2, 0, n), 1, 16, BAD);
        for (int n = 1; n <= 16; n++) {
            int size = n;
            bounds("line from, n " + n, from -> withSheets().line(2, 2, from, size), 0, 20 - n, INDEX);
        }
        ShownOnce x = withSheets();
        check.due("the last 16", x.line(1, 1, 4, 16), 0);
        check.due("they are", Check.spell(i -> x.byteAt(0, i)), "efghijklmnopqrst");
        check.due("the last one", x.line(1, 1, 19, 1), 1);
        check.due("it is", Check.spell(i -> x.byteAt(1, i)), "t");
        x.sheet(1, 1, 0);
        check.due("of no items none", x.line(1, 1, 0, 1), INDEX);
        for (int s = 0; s < 4; s++) {
            for (int lane = 0; lane < 3; lane++) {
                check.due("sheet " + s + " as lane " + lane, withSheets().line(s, lane, 0, 1), s % 3 == lane ? 0 : CAST);
                check.due("a missing sheet", new ShownOnce().line(s, lane, 0, 1), NULL);
            }
        }
    }

    /** "NOT: one is not 32 .. 126", whichever of them it is. */
    private static void lineItems() {
        for (int lane = 0; lane < 3; lane++) {
            for (int at = 0; at < 3; at++) {
                for (int v : new int[] {-128, -1, 0, 31, 32, 126, 127}) {
                    ShownOnce x = new ShownOnce();
                    x.sheet(0, lane, 5);
                    for (int i = 0; i < 5; i++) {
                        x.item(0, lane, i, i == 0 || i == 4 ? 1 : 'm');
                    }
                    x.item(0, lane, 1 + at, v);
                    int want = v >= 32 && v <= 126 ? 0 : NOT;
                    check.due("item " + v + " at " + at + ", lane " + lane, x.line(0, lane, 1, 3), want);
                    check.due("things", x.count(0), want == 0 ? 1 : 0);
                }
            }
        }
    }

    private static void byteAtNumbers() {
        for (int size : new int[] {1, 16}) {
            bounds("byteAt i of " + size, i -> Check.with("~".repeat(size)).byteAt(0, i), -1, size - 1, BAD);
        }
        bounds("byteAt thing", t -> Check.with("a", "b", "c").byteAt(t, 0), 0, 2, BAD);
        check.due("length", Check.with(SIXTEEN).byteAt(0, -1), 16);
        check.due("first", Check.with(SIXTEEN).byteAt(0, 0), 'a');
        check.due("last", Check.with(SIXTEEN).byteAt(0, 15), 'p');
    }

    private static void placeNumbers() {
        bounds("place thing", t -> Check.with("a", "b", "c").place(t, 0), 0, 2, BAD);
        bounds("place", p -> Check.with("1A-2B-3C-4D-").place(0, p), 0, 39, BAD);
        check.due("0", Check.with("1A-2B-3C-4D-").place(0, 0), 0);
        check.due("39", Check.with("1A-2B-3C-4D-").place(0, 39), 12);
        check.due("there is none", Check.with("a").place(0, 39), NONE);
    }

    private static void madeNumbers() {
        bounds("made thing", t -> Check.with("a", "b", "c").made(t, ALL, 0), 0, 2, BAD);
        bounds("made cut", c -> Check.with(SIXTEEN).made(0, c, -1), 0, 4799, BAD);
        bounds("made i", i -> Check.with(SIXTEEN).made(0, ALL, i), -1, 15, BAD);
        bounds("made i of one", i -> Check.with(SIXTEEN).made(0, TermsTest.cut(3, 4, 0), i), -1, 0, BAD);
        for (int i : new int[] {-1, 0, 1, 15, 16, Integer.MAX_VALUE}) {
            check.due("nothing, i " + i, Check.with(SIXTEEN).made(0, TermsTest.cut(4, 4, 0), i), NONE);
        }
        // Below -1 a number is as told in no state.
        below("made i of nothing", i -> Check.with(SIXTEEN).made(0, TermsTest.cut(4, 4, 0), i), -1, BAD);
    }

    // ---- 2 showing

    /** Three lines; of the first two the digits are shown, of the third there are none. */
    private static ShownOnce shown() {
        ShownOnce x = Check.with("a12", "bc345", "d");
        Check.showOf(x, 0, "12");
        Check.showOf(x, 1, "345");
        return x;
    }

    private static ShownOnce nothingFits() {
        ShownOnce x = shown();
        Check.showOf(x, 0, "x");
        return x;
    }

    private static void showNumbers() {
        bounds("show thing", t -> Check.showOf(Check.with("a", "b", "c"), t, "x"), 0, 2, BAD);
        ShownOnce x = Check.with("a");
        x.type('x', 1);
        check.due("thing 1", x.show(1), BAD);
        check.due("the tape stays", x.type('y', 1), 2);
        check.due("thing -1", x.show(-1), BAD);
        check.due("the tape stays", x.show(0), 1);
        check.due("it was", Check.spell(i -> x.end(0, i)), "xy");
        check.due("which is empty then", x.type('z', 1), 1);
        check.due("in place of what was", x.show(0), 1);
        check.due("it is", Check.spell(i -> x.end(0, i)), "z");
        check.due("an empty tape", x.show(0), NOT);
        check.due("what was stays", Check.spell(i -> x.end(0, i)), "z");
    }

    private static void forgetNumbers() {
        bounds("forget thing", t -> shownAll().forget(t), 0, 2, BAD);
        ShownOnce x = shownAll();
        check.due("two left", x.forget(1), 2);
        check.due("it is not", x.forget(1), NOT);
        check.due("one left", x.forget(2), 1);
        check.due("none left", x.forget(0), 0);
        check.due("a done one", doneOne().forget(2), NOT);
    }

    private static ShownOnce shownAll() {
        ShownOnce x = shown();
        Check.showOf(x, 2, "d");
        return x;
    }

    private static ShownOnce doneOne() {
        ShownOnce x = Check.with("1", "2", "3", "x");
        Check.showOf(x, 0, "1");
        Check.showOf(x, 1, "2");
        x.doing(2);
        return x;
    }

    private static void fittingNumbers() {
        bounds("fitting n", n -> shown().fitting(n), 0, 3, BAD);
        check.due("nothing is shown", Check.with("a").fitting(0), NOT);
        for (int n = 0; n <= 3; n++) {
            check.due("nothing fits", nothingFits().fitting(n), 0);
        }
    }

    private static ShownOnce shownPieces(int pieces) {
        ShownOnce x = Check.with("ab 12", "cde 345");
        Check.showOf(x, 0, pieces == 1 ? "ab" : pieces == 2 ? "12ab" : "12-:-ab");
        Check.showOf(x, 1, pieces == 1 ? "cde" : pieces == 2 ? "345cde" : "345-:-cde");
        return x;
    }

    private static void shortestNumbers() {
        for (int pieces = 1; pieces <= 3; pieces++) {
            int n = pieces;
            check.due("pieces", shownPieces(n).shortest(1), n);
            bounds("shortest what, of " + n, what -> shownPieces(n).shortest(what), 0, 1 + n, BAD);
        }
        for (int what = 0; what <= 4; what++) {
            check.due("nothing is shown", Check.with("a").shortest(what), NOT);
            check.due("nothing fits", nothingFits().shortest(what), NONE);
        }
    }

    /** What is made has 35 bytes at most, and the end of a thing that is done has all of them. */
    private static ShownOnce longest() {
        ShownOnce x = Check.with("ab", "abc", SIXTEEN);
        Check.showOf(x, 0, "ab---ab");
        Check.showOf(x, 1, "abc---abc");
        return x;
    }

    private static void paperNumbers() {
        bounds("paper thing", t -> shown().paper(t, -1), 0, 2, BAD);
        bounds("paper i", i -> shown().paper(1, i), -1, 2, BAD);
        bounds("paper i of the longest", i -> longest().paper(2, i), -1, 34, BAD);
        ShownOnce x = longest();
        check.due("all bytes", Check.spell(i -> x.paper(2, i)), SIXTEEN + "---" + SIXTEEN);
        check.due("done", x.doing(1), 1);
        check.due("its end", Check.spell(i -> x.end(2, i)), SIXTEEN + "---" + SIXTEEN);
        check.due("not otherwise", x.otherwise(), 0);
        for (int i : new int[] {-1, 0, 1, Integer.MAX_VALUE}) {
            check.due("it makes nothing, i " + i, digitsAlone().paper(2, i), NONE);
            check.due("nothing fits, i " + i, nothingFits().paper(1, i), NONE);
            check.due("nothing is shown, i " + i, Check.with("a").paper(0, i), NOT);
        }
        below("paper i of nothing", i -> digitsAlone().paper(2, i), -1, BAD);
        below("paper i, nothing fits", i -> nothingFits().paper(1, i), -1, BAD);
        below("paper i, nothing is shown", i -> Check.with("a").paper(0, i), -1, BAD);
    }

    /** The digits stand elsewhere in each, so that only their run is common. */
    private static ShownOnce digitsAlone() {
        ShownOnce x = Check.with("a12-", "bc3456+x", "d");
        Check.showOf(x, 0, "12");
        Check.showOf(x, 1, "3456");
        return x;
    }

    private static void differsAndOddNumbers() {
        bounds("differs thing", t -> shown().differs(t), 0, 2, BAD);
        bounds("odd thing", t -> shown().odd(t), 0, 2, BAD);
        check.due("differs: nothing is shown", Check.with("a").differs(0), NOT);
        check.due("differs: nothing fits", nothingFits().differs(0), NONE);
        check.due("odd: nothing is shown", Check.with("a").odd(0), NOT);
        check.due("odd: nothing fits", nothingFits().odd(0), NONE);
        check.due("odd: as shown", shown().odd(0), 0);
        check.due("odd: nothing is made", digitsAlone().odd(2), 1);
    }

    private static void settleNothing() {
        check.due("settle: no things", new ShownOnce().settle(), NOT);
        check.due("settle: nothing is shown", Check.with("a").settle(), NOT);
        check.due("settle: nothing fits", nothingFits().settle(), NONE);
        check.due("settle: all are shown", shownPieces(1).settle(), NONE);
        check.due("settle: one is not", shown().settle(), 2);
        check.due("settle: a done one is not", doneAll().settle(), 2);
        check.due("slips: no things", new ShownOnce().slips(), NOT);
        check.due("slips: nothing is shown", Check.with("a").slips(), NOT);
        check.due("slips: something fits", shown().slips(), 0);
        check.due("slips: nothing fits", nothingFits().slips(), 1);
        check.due("otherwise: nothing is shown", Check.with("a").otherwise(), NOT);
        check.due("otherwise: nothing fits", nothingFits().otherwise(), NONE);
        check.due("otherwise: nothing is done", shown().otherwise(), 0);
        check.due("keep: nothing is shown", Check.with("a").keep(), NOT);
        check.due("keep: nothing fits", nothingFits().keep(), NONE);
    }

    private static ShownOnce doneAll() {
        ShownOnce x = shown();
        x.doing(12);
        return x;
    }

    // ---- 3 doing

    private static ShownOnce twelveDigits() {
        ShownOnce x = new ShownOnce();
        for (int i = 0; i < 12; i++) {
            Check.thingOf(x, String.valueOf(i % 10));
        }
        Check.showOf(x, 0, "0");
        Check.showOf(x, 11, "1");
        return x;
    }

    private static void doingNumbers() {
        bounds("doing n", n -> shown().doing(n), 1, 12, BAD);
        for (int n = 1; n <= 12; n++) {
            ShownOnce x = twelveDigits();
            check.due("doing " + n + " of ten", x.doing(n), Math.min(n, 10));
            check.due("done", x.count(2), Math.min(n, 10));
            check.due("the last one", x.state(10), n >= 10 ? 2 : 0);
            check.due("back", x.back(), Math.min(n, 10));
        }
        for (int n = 1; n <= 12; n++) {
            check.due("nothing is shown", Check.with("a").doing(n), NOT);
            check.due("nothing fits", nothingFits().doing(n), NONE);
        }
        check.due("no things", new ShownOnce().doing(1), NOT);
        check.due("back: no doing", new ShownOnce().back(), NONE);
    }

    /** All 512 calls count: as many doings as fit in are each taken back once. */
    private static void manyDoings() {
        ShownOnce x = Check.with("1", "2", "3");
        Check.showOf(x, 0, "1");
        Check.showOf(x, 1, "2");
        int calls = 10;
        int doings = (511 - calls) / 2;
        for (int i = 0; i < doings; i++) {
            check.due("doing " + i, x.doing(12), i == 0 ? 1 : 0);
        }
        for (int i = doings - 1; i >= 0; i--) {
            check.due("back " + i, x.back(), i == 0 ? 1 : 0);
        }
        check.due("no more", x.back(), NONE);
        ShownOnce y = Check.with("1", "2", "3");
        Check.showOf(y, 0, "1");
        Check.showOf(y, 1, "2");
        for (int i = calls; i < 511; i++) {
            y.doing(1);
        }
        check.due("the 512th call", y.back(), 0);
    }

    private static void endNumbers() {
        bounds("end thing", t -> shownAll().end(t, -1), 0, 2, BAD);
        bounds("end i of a shown one", i -> shown().end(1, i), -1, 2, BAD);
        bounds("end i of a done one", i -> doneOne().end(2, i), -1, 0, BAD);
        for (int i : new int[] {-1, 0, 1, Integer.MAX_VALUE}) {
            check.due("untouched, i " + i, shown().end(2, i), NONE);
            check.due("aside, i " + i, doneOne().end(3, i), NONE);
        }
        check.due("aside", doneOne().state(3), 3);
        below("end i of an untouched one", i -> shown().end(2, i), -1, BAD);
    }

    private static ShownOnce withPrograms() {
        ShownOnce x = Check.with("ab 12", "-");
        Check.textOf(x, "f0,e0");
        Check.textOf(x, "bw1,aw1+bd1,ad1");
        Check.textOf(x, "f0,e0u+\"xyz\"+f0,e0l");
        Check.textOf(x, "\"~\"");
        return x;
    }

    private static void keptNumbers() {
        bounds("kept program", p -> withPrograms().kept(p, 2), 0, 3, BAD);
        bounds("kept what of one", what -> withPrograms().kept(0, what), 0, 2, BAD);
        bounds("kept what of two", what -> withPrograms().kept(1, what), 0, 3, BAD);
        bounds("kept what of three", what -> withPrograms().kept(2, what), 0, 4, BAD);
        bounds("kept program of none", p -> new ShownOnce().kept(p, 0), 0, -1, BAD);
        ShownOnce x = new ShownOnce();
        check.due("no program 0 yet", x.kept(0, 0), BAD);
        Check.textOf(x, "f0,e0");
        check.due("program 0", x.kept(0, 0), 4);
        check.due("no program 1 yet", x.kept(1, 0), BAD);
    }

    private static void runNumbers() {
        bounds("run program", p -> withPrograms().run(p, 0, 0), 0, 3, BAD);
        bounds("run thing", t -> withPrograms().run(0, t, 0), 0, 1, BAD);
        bounds("run i", i -> withPrograms().run(2, 0, i), -1, 12, BAD);
        bounds("run i of one", i -> withPrograms().run(3, 1, i), -1, 0, BAD);
        for (int i : new int[] {-1, 0, 1, Integer.MAX_VALUE}) {
            check.due("nothing, i " + i, withPrograms().run(1, 1, i), NONE);
        }
        below("run i of nothing", i -> withPrograms().run(1, 1, i), -1, BAD);
        check.due("no programs", Check.with("a").run(0, 0, -1), BAD);
    }

    private static void stateAndCountNumbers() {
        bounds("state thing", t -> shown().state(t), 0, 2, BAD);
        bounds("state thing of twelve", t -> twelveDigits().state(t), 0, 11, BAD);
        bounds("count what", what -> shown().count(what), 0, 4, BAD);
        for (int what = 0; what <= 4; what++) {
            check.due("a new object's " + what, new ShownOnce().count(what), 0);
        }
    }

    // ---- 4 sheets

    private static void sheetNumbers() {
        bounds("sheet", s -> new ShownOnce().sheet(s, 0, 1), 0, 3, BAD);
        bounds("sheet lane", l -> new ShownOnce().sheet(0, l, 1), 0, 2, BAD);
        above("sheet n", n -> new ShownOnce().sheet(0, 0, n), 20, BAD);
        below("sheet n", n -> new ShownOnce().sheet(0, 0, n), 0, SIZE);
        for (int n = 0; n <= 20; n++) {
            ShownOnce x = new ShownOnce();
            int size = n;
            check.due("n " + n, x.sheet(3, 1, n), n);
            bounds("its items", i -> x.item(3, 1, i, 65), 0, size - 1, INDEX);
            check.due("dropped", x.drop(3), n);
        }
    }

    private static void dropNumbers() {
        bounds("drop", s -> withSheets().drop(s), 0, 3, BAD);
        for (int s = 0; s < 4; s++) {
            ShownOnce x = withSheets();
            check.due("twenty", x.drop(s), 20);
            check.due("nothing", x.drop(s), NULL);
            for (int other = 0; other < 4; other++) {
                check.due("sheet " + other, x.item(other, other % 3, 0, 1), other == s ? NULL : 1);
            }
        }
    }

    private static void itemNumbers() {
        bounds("item sheet", s -> withSheets().item(s, s >= 0 && s < 4 ? s % 3 : 0, 0, 1), 0, 3, BAD);
        bounds("item lane", l -> withSheets().item(l >= 0 && l < 3 ? l : 0, l, 0, 1), 0, 2, BAD);
        bounds("item i", i -> withSheets().item(0, 0, i, 1), 0, 19, INDEX);
        for (int s = 0; s < 4; s++) {
            for (int lane = 0; lane < 3; lane++) {
                check.due("sheet " + s + " as lane " + lane, withSheets().item(s, lane, 0, 1), s % 3 == lane ? 1 : CAST);
                check.due("a missing sheet", new ShownOnce().item(s, lane, 0, 1), NULL);
            }
        }
    }

    /** "becomes v, its lowest bits": of a byte 8, of a short 16, of an int all. */
    private static void itemLowestBits() {
        int[] values = {
            65, 65 - 256, 65 + 256, 65 - 65536, 65 + 65536, 65 + 32768, 65 + 128, 65 | 1 << 31, 65 | 1 << 16 | 1 << 8,
            Integer.MAX_VALUE - 62, Integer.MIN_VALUE + 65, -191, 31 + 256, 127 + 256, 32 - 256, 126 - 256, 126 + 65536,
        };
        for (int lane = 0; lane < 3; lane++) {
            for (int v : values) {
                ShownOnce x = new ShownOnce();
                x.sheet(2, lane, 1);
                check.due("item " + v, x.item(2, lane, 0, v), 1);
                int is = lane == 0 ? v & 255 : lane == 1 ? v & 65535 : v;
                boolean fits = is >= 32 && is <= 126;
                check.due(v + " in lane " + lane, x.line(2, lane, 0, 1), fits ? 0 : NOT);
                check.due("is", x.byteAt(0, 0), fits ? is : BAD);
            }
        }
    }

    private static ShownOnce toPut() {
        ShownOnce x = withSheets();
        Check.thingOf(x, "Z");
        Check.thingOf(x, SIXTEEN);
        return x;
    }

    private static void putNumbers() {
        bounds("put thing", t -> toPut().put(t, ALL, 0, 0, 0), 0, 1, BAD);
        bounds("put cut", c -> toPut().put(1, c, 0, 0, 0), 0, 4799, BAD);
        bounds("put sheet", s -> toPut().put(0, ALL, s, s >= 0 && s < 4 ? s % 3 : 0, 0), 0, 3, BAD);
        bounds("put lane", l -> toPut().put(0, ALL, l >= 0 && l < 3 ? l : 0, l, 0), 0, 2, BAD);
        bounds("put from, one byte", from -> toPut().put(0, ALL, 0, 0, from), 0, 19, INDEX);
        bounds("put from, 16 bytes", from -> toPut().put(1, ALL, 0, 0, from), 0, 4, INDEX);
        for (int s = 0; s < 4; s++) {
            for (int lane = 0; lane < 3; lane++) {
                check.due("sheet " + s + " as lane " + lane, toPut().put(0, ALL, s, lane, 19), s % 3 == lane ? 1 : CAST);
                check.due("a missing sheet", Check.with("Z").put(0, ALL, s, lane, 0), NULL);
            }
        }
        check.due("nothing", toPut().put(0, 0, 0, 0, 0), NONE);
        ShownOnce x = toPut();
        check.due("the last 16", x.put(1, ALL + 1, 2, 2, 4), 16);
        check.due("the items ahead of them", x.line(2, 2, 0, 4), 2);
        check.due("are what they were", Check.spell(i -> x.byteAt(2, i)), "abcd");
        check.due("they", x.line(2, 2, 4, 16), 3);
        check.due("are put", Check.spell(i -> x.byteAt(3, i)), SIXTEEN.toUpperCase(java.util.Locale.ROOT));
        x.sheet(0, 0, 0);
        check.due("a row of no items", x.put(0, ALL, 0, 0, 0), INDEX);
    }
}
