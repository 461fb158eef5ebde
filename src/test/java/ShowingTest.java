/** Promises 8 to 16: show, forget, fitting, shortest, paper, differs, settle, odd, slips. */
public final class ShowingTest {
    private static final Check check = new Check();
    private static final int TYPED = 1 << 24;

    public static void main(String[] args) {
        show();
        forget();
        fitting();
        shortest();
        order();
        paper();
        differs();
        settle();
        odd();
        slips();
        check.close("ShowingTest");
    }

    private static void show() {
        ShownOnce x = Check.with("1", "2", "3", "4", "5");
        check.due("empty tape", x.show(0), ShownOnce.NOT);
        check.due("13 bytes", Check.showOf(x, 0, "thirteen byte"), ShownOnce.NOT);
        check.due("the tape is empty behind not", x.type('7', 1), 1);
        check.due("thing 5", x.show(5), ShownOnce.BAD);
        check.due("thing -1", x.show(-1), ShownOnce.BAD);
        check.due("the tape stays", x.show(0), 1);
        check.due("it was shown", Check.spell(i -> x.end(0, i)), "7");
        check.due("12 bytes", Check.showOf(x, 1, "twelve bytes"), 2);
        check.due("they are shown", Check.spell(i -> x.end(1, i)), "twelve bytes");
        check.due("in place of what was", Check.showOf(x, 0, "8"), 2);
        check.due("it is another", Check.spell(i -> x.end(0, i)), "8");
        check.due("three", Check.showOf(x, 2, "c"), 3);
        check.due("four", Check.showOf(x, 3, "d"), 4);
        check.due("a fifth", Check.showOf(x, 4, "e"), ShownOnce.FULL);
        check.due("the tape is empty behind full", x.type('9', 1), 1);
        check.due("one of the four again", x.show(3), 4);
        check.due("not goes ahead of full", x.show(4), ShownOnce.NOT);
        check.due("what is refused changes nothing", x.state(4), 0);
        check.due("state", x.state(3), 1);
        check.due("count", x.count(1), 4);
    }

    private static void forget() {
        ShownOnce x = Check.with("1", "2");
        check.due("not shown", x.forget(0), ShownOnce.NOT);
        check.due("thing 2", x.forget(2), ShownOnce.BAD);
        check.due("thing -1", x.forget(-1), ShownOnce.BAD);
        Check.showOf(x, 0, "1");
        Check.showOf(x, 1, "x");
        check.due("nothing fits", x.fitting(0), 0);
        check.due("one left", x.forget(1), 1);
        check.due("untouched", x.state(1), 0);
        check.due("no end", x.end(1, -1), ShownOnce.NONE);
        check.due("the other fits", x.fitting(0), 49);
        check.due("none left", x.forget(0), 0);
        check.due("twice", x.forget(0), ShownOnce.NOT);
        check.due("nothing is shown", x.fitting(0), ShownOnce.NOT);
    }

    private static void counts(ShownOnce x, String what, long one, long two, long three) {
        check.due(what + ", of one", x.fitting(1), one);
        check.due(what + ", of two", x.fitting(2), two);
        check.due(what + ", of three", x.fitting(3), three);
        check.due(what + ", of all", x.fitting(0), one + two + three);
    }

    private static void fitting() {
        ShownOnce x = Check.with("7", "8");
        check.due("n -1", x.fitting(-1), ShownOnce.BAD);
        check.due("n 4", x.fitting(4), ShownOnce.BAD);
        check.due("nothing shown", x.fitting(3), ShownOnce.NOT);
        // Four places are 0 and four are 1, with three turns each, and one is typed.
        Check.showOf(x, 0, "7");
        counts(x, "7", 49, 0, 0);
        Check.showOf(x, 0, "77");
        counts(x, "77", 1, 49 * 49, 0);
        Check.showOf(x, 0, "7-7");
        counts(x, "7-7", 1, 98, 49 * 49);
        Check.showOf(x, 0, "7");
        Check.showOf(x, 1, "8");
        counts(x, "7 and 8", 48, 0, 0);
        Check.showOf(x, 1, "88");
        counts(x, "7 and 88", 0, 0, 0);
        Check.showOf(x, 0, "x7");
        Check.showOf(x, 1, "x8");
        counts(x, "x7 and x8", 0, 48, 0);
        Check.showOf(x, 0, "abc");
        Check.showOf(x, 1, "abc");
        counts(x, "typed alone", 1, 2, 1);
        Check.showOf(x, 1, "ab");
        counts(x, "a beginning of the other", 0, 0, 0);
        ShownOnce y = Check.with("q");
        Check.showOf(y, 0, "123456789");
        counts(y, "nine typed", 0, 0, 1);
        Check.showOf(y, 0, "1234567890");
        counts(y, "ten typed", 0, 0, 0);
        ShownOnce z = Check.with("aaaaaaaaaaaaaaaa");
        Check.showOf(z, 0, "aaaaaaaaaaaa");
        long[] listed = NaiveModel.fitsOf(java.util.List.of("aaaaaaaaaaaaaaaa"), java.util.List.of("aaaaaaaaaaaa")).counts;
        counts(z, "as many as listed", listed[1], listed[2], listed[3]);
    }

    private static void program(ShownOnce x, String what, int cost, int... pieces) {
        check.due(what + ": cost", x.shortest(0), cost);
        check.due(what + ": pieces", x.shortest(1), pieces.length);
        for (int i = 0; i < 3; i++) {
            check.due(what + ": piece " + i, x.shortest(2 + i), i < pieces.length ? pieces[i] : ShownOnce.BAD);
        }
    }

    private static void shortest() {
        ShownOnce x = Check.with("7", "8");
        check.due("what -1", x.shortest(-1), ShownOnce.BAD);
        check.due("what 5", x.shortest(5), ShownOnce.BAD);
        check.due("nothing shown", x.shortest(4), ShownOnce.NOT);
        Check.showOf(x, 0, "7");
        program(x, "typed", 3, TYPED + '7');
        Check.showOf(x, 1, "8");
        program(x, "cut", 4, 3);
        Check.showOf(x, 1, "9");
        check.due("nothing fits", x.shortest(4), ShownOnce.NONE);
        check.due("what goes ahead", x.shortest(5), ShownOnce.BAD);
    }

    private static void order() {
        ShownOnce x = Check.with("ab12", "cd34");
        Check.showOf(x, 0, "AB");
        Check.showOf(x, 1, "CD");
        program(x, "the least number", 5, 3 * 2 + 1);
        Check.showOf(x, 0, "ab12-ab");
        Check.showOf(x, 1, "cd34-cd");
        program(x, "three pieces", 11, 3 * 4, TYPED + '-', 3 * 2);
        ShownOnce y = Check.with("ab");
        Check.showOf(y, 0, "ab");
        program(y, "of one cost a cut goes ahead of a typed one", 4, 3 * 2);
        Check.showOf(y, 0, "ab!");
        program(y, "of one cost one piece goes ahead of two", 5, 3 * TYPED + ('a' << 16) + ('b' << 8) + '!');
        Check.showOf(y, 0, "ab!?");
        program(y, "the least cost", 8, 3 * 2, 2 * TYPED + ('!' << 8) + '?');
        ShownOnce z = Check.with("a", "b");
        Check.showOf(z, 0, "a!");
        Check.showOf(z, 1, "b!");
        program(z, "two pieces", 7, 3, TYPED + '!');
        ShownOnce w = Check.with("ab cd", "ef gh");
        Check.showOf(w, 0, "AB-:-CD");
        Check.showOf(w, 1, "EF-:-GH");
        program(w, "the greatest cost", 15, 3 * 2 + 1, 3 * TYPED + ('-' << 16) + (':' << 8) + '-', 120 * 3 + 3 * 5 + 1);
    }

    private static void paper() {
        ShownOnce x = Check.with("a1", "b22", "q", "cat 345");
        check.due("thing 4", x.paper(4, -1), ShownOnce.BAD);
        check.due("thing -1", x.paper(-1, -1), ShownOnce.BAD);
        check.due("nothing shown", x.paper(0, -1), ShownOnce.NOT);
        Check.showOf(x, 0, "1");
        Check.showOf(x, 1, "22");
        check.due("shown", Check.spell(i -> x.paper(0, i)), "1");
        check.due("shown", Check.spell(i -> x.paper(1, i)), "22");
        check.due("nothing", Check.spell(i -> x.paper(2, i)), null);
        check.due("none goes ahead of no such byte", x.paper(2, 77), ShownOnce.NONE);
        check.due("another", Check.spell(i -> x.paper(3, i)), "at 345");
        check.due("no such byte", x.paper(3, -2), ShownOnce.BAD);
        Check.showOf(x, 1, "!");
        check.due("nothing fits", x.paper(3, -1), ShownOnce.NONE);
        check.due("it changes nothing", x.state(3), 0);
    }

    private static void differs() {
        ShownOnce x = Check.with("7", "42", "a");
        check.due("thing 3", x.differs(3), ShownOnce.BAD);
        check.due("nothing shown", x.differs(1), ShownOnce.NOT);
        Check.showOf(x, 0, "7");
        check.due("of what is shown one", x.differs(0), 1);
        check.due("7, 4, 42, 2, nothing", x.differs(1), 5);
        check.due("7, a, A, nothing", x.differs(2), 4);
        check.due("thing -1", x.differs(-1), ShownOnce.BAD);
        Check.showOf(x, 1, "x");
        check.due("nothing fits", x.differs(2), ShownOnce.NONE);
        ShownOnce y = Check.with("7", "42", "a");
        Check.showOf(y, 0, "77");
        // Of 2402 the first 64.
        check.due("only the nearest count", y.differs(2), NaiveNearest.unlike("7", "77", "a"));
        check.due("only the nearest count", y.differs(1), NaiveNearest.unlike("7", "77", "42"));
    }

    /** What the naive model says of one shown thing. */
    private static final class NaiveNearest {
        static int unlike(String line, String end, String other) {
            java.util.Set<String> ends = new java.util.HashSet<>();
            for (int[] program : NaiveModel.fitsOf(java.util.List.of(line), java.util.List.of(end)).nearest) {
                ends.add(String.valueOf(NaiveModel.madeBy(program, other)));
            }
            return ends.size();
        }
    }

    private static void settle() {
        ShownOnce x = Check.with("7", "a", "42", "42");
        check.due("nothing shown", x.settle(), ShownOnce.NOT);
        Check.showOf(x, 0, "7");
        // 36 of 49 make nothing of a; 27 of 49 make 42 of 42.
        check.due("of like ones the first", x.settle(), 2);
        Check.showOf(x, 2, "4");
        check.due("of those not shown", x.settle() == 2 ? 1 : 0, 0);
        ShownOnce y = Check.with("7");
        Check.showOf(y, 0, "7");
        check.due("all are shown", y.settle(), ShownOnce.NONE);
        Check.thingOf(y, "8");
        check.due("one is not", y.settle(), 1);
        y.doing(1);
        check.due("done ones count", y.settle(), 1);
        Check.showOf(y, 0, "1234567890");
        check.due("nothing fits", y.settle(), ShownOnce.NONE);
    }

    private static void odd() {
        ShownOnce x = Check.with("7", "8", "42", "a", "-");
        check.due("thing 5", x.odd(5), ShownOnce.BAD);
        check.due("nothing shown", x.odd(0), ShownOnce.NOT);
        Check.showOf(x, 0, "7");
        Check.showOf(x, 1, "8");
        check.due("shown", x.odd(0), 0);
        check.due("digits", x.odd(2), 0);
        check.due("a letter", x.odd(3), 1);
        check.due("a sign", x.odd(4), 1);
        check.due("thing -1", x.odd(-1), ShownOnce.BAD);
        Check.showOf(x, 1, "x");
        check.due("nothing fits", x.odd(0), ShownOnce.NONE);
        ShownOnce y = Check.with("Ab", "cD", "EF", "gh", "I", "Xy");
        Check.showOf(y, 0, "Ab");
        Check.showOf(y, 1, "cD");
        check.due("capitals", y.odd(2), 1);
        check.due("small letters", y.odd(3), 1);
        check.due("a capital", y.odd(4), 1);
        check.due("as shown", y.odd(5), 0);
        ShownOnce z = Check.with("a1", "b22", "q");
        Check.showOf(z, 0, "1");
        Check.showOf(z, 1, "22");
        check.due("nothing is made", z.odd(2), 1);
        ShownOnce w = Check.with("a-b", "cc--dd", "a1b2c3d4e5f6g7h8");
        Check.showOf(w, 0, "a-b");
        Check.showOf(w, 1, "cc--dd");
        check.due("like ones side by side are one", w.odd(1), 0);
        check.due("a longer shape than any shown", w.odd(2), 1);
        ShownOnce v = Check.with("a1b2c3d4e5f6", "g1h2i3j4k5l", "q1r2s3t4u5v6", "1q1r2s3t4u5v6");
        Check.showOf(v, 0, "a1b2c3d4e5f6");
        Check.showOf(v, 1, "g1h2i3j4k5l");
        check.due("twelve kinds as shown", v.odd(2), 0);
        check.due("thirteen kinds", v.odd(3), 1);
    }

    private static void slips() {
        ShownOnce x = Check.with("7", "8", "9", "1");
        check.due("nothing shown", x.slips(), ShownOnce.NOT);
        Check.showOf(x, 0, "7");
        check.due("something fits", x.slips(), 0);
        Check.showOf(x, 1, "x");
        check.due("the least bits", x.slips(), 1);
        Check.showOf(x, 1, "8");
        Check.showOf(x, 2, "x");
        check.due("the fewest", x.slips(), 4);
        check.due("it changes nothing", x.fitting(0), 0);
        Check.showOf(x, 3, "y");
        check.due("two", x.slips(), 12);
        check.due("again", x.slips(), 12);
        x.forget(2);
        check.due("one", x.slips(), 8);
        check.due("shown ones stay", x.count(1), 3);
        ShownOnce y = Check.with("q", "r");
        Check.showOf(y, 1, "1234567890");
        check.due("the only one", y.slips(), 2);
        Check.showOf(y, 0, "1234567890");
        check.due("both", y.slips(), 3);
    }
}
