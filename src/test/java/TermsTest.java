import java.util.List;

/** The sentences of "Terms" that name a boundary, one method each. */
public final class TermsTest {
    private static final Check check = new Check();
    private static final int TYPED = 1 << 24;
    private static final int ALL = 24;
    private static final int FIRST_BYTE = 32, LAST_BYTE = 126;

    public static void main(String[] args) {
        thingsAreNumberedAsTheyCome();
        bytesAreToldApart();
        runsAreAsManyAsStandSideBySide();
        signsStandAlone();
        placesBehindTheBeginning();
        placesAheadOfTheEnd();
        placesOfRuns();
        cutsAreNumbered();
        cutsMakeOneByteAtLeast();
        turnsChangeLettersAlone();
        typedPiecesAreOneToThreeBytes();
        programsAreOneToThreePieces();
        programsMakeNothingIfOnePieceDoes();
        costs();
        orderByCost();
        orderByPieces();
        orderByNumbers();
        check.close("TermsTest");
    }

    static int cut(int from, int to, int turn) {
        return 120 * from + 3 * to + turn;
    }

    private static boolean isKind(int kind, int b) {
        boolean digit = b >= 48 && b <= 57;
        boolean capital = b >= 65 && b <= 90;
        boolean small = b >= 97 && b <= 122;
        return kind == 0 ? digit : kind == 1 ? capital || small : kind == 2 ? capital : !digit && !capital && !small;
    }

    /** "THINGS 0 .. 11, as they come, are LINES of 1 to 16 bytes (32 .. 126)." */
    private static void thingsAreNumberedAsTheyCome() {
        ShownOnce x = new ShownOnce();
        x.sheet(0, 0, 1);
        x.item(0, 0, 0, LAST_BYTE);
        for (int i = 0; i < 12; i += 2) {
            check.due("typed thing", Check.thingOf(x, "a".repeat(1 + i)), i);
            check.due("thing from a sheet", x.line(0, 0, 0, 1), i + 1);
        }
        check.due("no thing 12 by typing", Check.thingOf(x, "a"), ShownOnce.FULL);
        check.due("no thing 12 from a sheet", x.line(0, 0, 0, 1), ShownOnce.FULL);
        check.due("thing 10", x.byteAt(10, -1), 11);
        check.due("thing 11", x.byteAt(11, 0), LAST_BYTE);
        check.due("thing 12", x.byteAt(12, -1), ShownOnce.BAD);
    }

    /** "Digits, capitals (A .. Z), letters (these and a .. z) and signs (all others) are told apart." */
    private static void bytesAreToldApart() {
        for (int b = FIRST_BYTE; b <= LAST_BYTE; b++) {
            ShownOnce x = Check.with(String.valueOf((char) b));
            for (int kind = 0; kind < 4; kind++) {
                boolean is = isKind(kind, b);
                check.due("byte " + b + " of kind " + kind, x.place(0, 16 + 6 * kind), is ? 0 : ShownOnce.NONE);
            }
        }
    }

    private static void places(String line, int base, int n, String want) {
        ShownOnce x = Check.with(line);
        StringBuilder got = new StringBuilder();
        for (int i = 0; i < n; i++) {
            int at = x.place(0, base + i);
            got.append(i > 0 ? " " : "").append(at == ShownOnce.NONE ? "-" : String.valueOf(at));
        }
        check.due("places from " + base + " of [" + line + "]", got.toString(), want);
    }

    /** "0 digits, 1 letters, 2 capitals (as many as stand side by side each)" */
    private static void runsAreAsManyAsStandSideBySide() {
        places("0000000000000000", 16, 6, "0 - 0 16 - 16");
        places("aAzZ", 22, 6, "0 - 0 4 - 4");
        places("aAAa", 28, 6, "1 - 1 3 - 3");
        places("A1A", 28, 6, "0 2 2 1 3 3");
        places("AaA", 28, 6, "0 2 2 1 3 3");
        places("AaA", 22, 6, "0 - 0 3 - 3");
        places("1a1", 22, 6, "1 - 1 2 - 2");
        places("12a34", 16, 6, "0 3 3 2 5 5");
    }

    /** "3 signs (each byte alone)" */
    private static void signsStandAlone() {
        places("----------------", 34, 6, "0 1 15 1 2 16");
        places("--", 34, 6, "0 1 1 1 2 2");
        places("a-", 34, 6, "1 - 1 2 - 2");
        places("a", 34, 6, "- - - - - -");
    }

    /** "0 .. 7 that many bytes behind the beginning"; "A PLACE of a LINE is 0 .. its length, or there is none." */
    private static void placesBehindTheBeginning() {
        places("a", 0, 8, "0 1 - - - - - -");
        places("abcdef", 0, 8, "0 1 2 3 4 5 6 -");
        places("abcdefg", 0, 8, "0 1 2 3 4 5 6 7");
        places("abcdefghijklmnop", 0, 8, "0 1 2 3 4 5 6 7");
    }

    /** "8 .. 15 that less 8 bytes ahead of the end" */
    private static void placesAheadOfTheEnd() {
        places("a", 8, 8, "1 0 - - - - - -");
        places("abcdef", 8, 8, "6 5 4 3 2 1 0 -");
        places("abcdefg", 8, 8, "7 6 5 4 3 2 1 0");
        places("abcdefghijklmnop", 8, 8, "16 15 14 13 12 11 10 9");
    }

    /** "16 and on: 6 KIND, 3 SIDE and WHICH, together: ahead or behind the first, second, last RUN" */
    private static void placesOfRuns() {
        places("-", 16, 24, "- - - - - - - - - - - - - - - - - - 0 - 0 1 - 1");
        places("1aB-", 16, 24, "0 - 0 1 - 1 1 - 1 3 - 3 2 - 2 3 - 3 3 - 3 4 - 4");
        places("1aB-2cD+", 16, 24, "0 4 4 1 5 5 1 5 5 3 7 7 2 6 6 3 7 7 3 7 7 4 8 8");
        places("1A-2B-3C-4D-", 16, 24, "0 3 9 1 4 10 1 4 10 2 5 11 1 4 10 2 5 11 2 5 11 3 6 12");
    }

    /** "its number is 120 from, 3 to and TURN, together (0 .. 4799)" */
    private static void cutsAreNumbered() {
        ShownOnce x = Check.with("aB-1");
        check.due("0 is of nothing", x.made(0, 0, -1), ShownOnce.NONE);
        check.due("3 is f0,f1", x.made(0, 3, -1), 1);
        check.due("4 is f0,f1u", x.made(0, 4, 0), 'A');
        check.due("5 is f0,f1l", x.made(0, 5, 0), 'a');
        check.due("123 is of nothing", x.made(0, 123, -1), ShownOnce.NONE);
        check.due("125 is f1,f1l", x.made(0, 125, -1), ShownOnce.NONE);
        check.due("126 is f1,f2", x.made(0, 126, 0), 'B');
        check.due("128 is f1,f2l", x.made(0, 128, 0), 'b');
        check.due("119 is f0 to behind the last sign, small", Check.spell(i -> x.made(0, 119, i)), "ab-");
        ShownOnce y = Check.with("a--");
        check.due("4799 is between one place", y.made(0, 4799, -1), ShownOnce.NONE);
        check.due("4790 is from behind the last sign", y.made(0, 4790, -1), ShownOnce.NONE);
        check.due("36 to 39 is the last sign", Check.spell(i -> y.made(0, cut(36, 39, 2), i)), "-");
    }

    /** "It makes of a LINE the bytes between (one at least; else nothing)." */
    private static void cutsMakeOneByteAtLeast() {
        ShownOnce x = Check.with("abcdefghijklmnop");
        check.due("one", Check.spell(i -> x.made(0, cut(3, 4, 0), i)), "d");
        check.due("none", x.made(0, cut(3, 3, 0), -1), ShownOnce.NONE);
        check.due("less than none", x.made(0, cut(4, 3, 0), -1), ShownOnce.NONE);
        check.due("all sixteen", Check.spell(i -> x.made(0, ALL, i)), "abcdefghijklmnop");
        check.due("all sixteen by letters", x.made(0, cut(22, 25, 0), -1), 16);
        check.due("no place from", x.made(0, cut(16, 8, 0), -1), ShownOnce.NONE);
        check.due("no place to", x.made(0, cut(0, 16, 0), -1), ShownOnce.NONE);
        check.due("neither place", x.made(0, cut(16, 19, 0), -1), ShownOnce.NONE);
    }

    /** "a TURN (0 as it is, 1 its small letters made capitals, 2 its capitals made small)" */
    private static void turnsChangeLettersAlone() {
        for (int b = FIRST_BYTE; b <= LAST_BYTE; b++) {
            ShownOnce x = Check.with(String.valueOf((char) b));
            int up = b >= 97 && b <= 122 ? b - 32 : b;
            int down = b >= 65 && b <= 90 ? b + 32 : b;
            check.due("as it is " + b, x.made(0, ALL, 0), b);
            check.due("capitals of " + b, x.made(0, ALL + 1, 0), up);
            check.due("small of " + b, x.made(0, ALL + 2, 0), down);
        }
    }

    /** What is shown of one thing, with all programs of n pieces that fit. */
    private static void fits(String line, String end, long one, long two, long three) {
        ShownOnce x = Check.with(line);
        Check.showOf(x, 0, end);
        String what = line + " -> " + end;
        check.due(what + ", of one", x.fitting(1), one);
        check.due(what + ", of two", x.fitting(2), two);
        check.due(what + ", of three", x.fitting(3), three);
        check.due(what + ", of all", x.fitting(0), one + two + three);
    }

    /** "A TYPED PIECE is 1 to 3 bytes, always the same: its number is 2 to the power 24 times how many and these" */
    private static void typedPiecesAreOneToThreeBytes() {
        fits("q", "1", 1, 0, 0);
        fits("q", "12", 1, 1, 0);
        fits("q", "123", 1, 2, 1);
        fits("q", "1234", 0, 3, 3);
        // Ab: 6 places from, 4 to, as it is; A: 6 from, 4 to, two turns; each typed too; b! and ! are typed alone.
        fits("Ab", "Ab!", 1, 25 + 49, 49);
        ShownOnce x = Check.with("q", "r");
        Check.showOf(x, 0, " ");
        check.due("one byte", x.shortest(2), TYPED + 32);
        Check.showOf(x, 0, "~!");
        check.due("two bytes, the first highest", x.shortest(2), 2 * TYPED + 126 * 256 + 33);
        Check.showOf(x, 0, "~ !");
        check.due("three bytes, the first highest", x.shortest(2), 3 * TYPED + 126 * 65536 + 32 * 256 + 33);
        check.due("always the same", Check.spell(i -> x.paper(1, i)), "~ !");
        ShownOnce y = Check.with("a1", "b2");
        Check.showOf(y, 0, "a-1");
        Check.showOf(y, 1, "b+2");
        check.due("in each end the same", y.fitting(0), 0);
        Check.showOf(x, 0, "~ !~");
        check.due("four bytes are two pieces", x.shortest(1), 2);
    }

    /** "A PROGRAM is one PIECE, two, or three of which the second one is TYPED" */
    private static void programsAreOneToThreePieces() {
        // All typed, of 1 to 3 bytes each: the ways to part a row of so many bytes.
        fits("q", "123456", 0, 1, 7);
        fits("q", "1234567", 0, 0, 6);
        fits("q", "12345678", 0, 0, 3);
        fits("q", "123456789", 0, 0, 1);
        fits("q", "1234567890", 0, 0, 0);
        // Each byte stands in the line, but nowhere beside the next one, and there are too many of them to be typed.
        fits("a1b2c3d4e5f6g7", "gfedcbagfe", 0, 0, 0);
        ShownOnce x = Check.with("ab-cd-ef", "ghi-jkl-mno");
        Check.showOf(x, 0, "efcdab");
        Check.showOf(x, 1, "mnojklghi");
        check.due("the second of three is no cut", x.fitting(0), 0);
        Check.showOf(x, 0, "ef-ab");
        Check.showOf(x, 1, "mno-ghi");
        check.due("the second of three is typed", x.fitting(3) > 0 ? 1 : 0, 1);
        check.due("which is told", x.shortest(3), TYPED + '-');
    }

    /** "what it makes of a LINE is what they make, one behind the other (nothing, if one makes nothing)" */
    private static void programsMakeNothingIfOnePieceDoes() {
        ShownOnce x = Check.with("a1", "a", "1", "-");
        Check.textOf(x, "bd1,ad1+\"-\"+bw1,aw1");
        check.due("both", Check.spell(i -> x.run(0, 0, i)), "1-a");
        check.due("the first makes nothing", x.run(0, 1, -1), ShownOnce.NONE);
        check.due("the last makes nothing", x.run(0, 2, -1), ShownOnce.NONE);
        check.due("neither makes anything", x.run(0, 3, -1), ShownOnce.NONE);
        Check.textOf(x, "\"!\"+bw1,aw1");
        check.due("a typed piece is not enough", x.run(1, 2, -1), ShownOnce.NONE);
        Check.textOf(x, "bd1,ad1+\"!\"");
        check.due("nor one behind", x.run(2, 1, -1), ShownOnce.NONE);
        check.due("both again", Check.spell(i -> x.run(2, 2, i)), "1!");
    }

    private static void cost(String text, int want) {
        ShownOnce x = new ShownOnce();
        Check.textOf(x, text);
        check.due("cost of " + text, x.kept(0, 0), want);
    }

    /** "COST: of a CUT 4 (5 with a TURN above 0), of a TYPED PIECE 2 and how many bytes." */
    private static void costs() {
        cost("f0,e0", 4);
        cost("asz,aszl", 5);
        cost("f0,e0u", 5);
        cost("f0,e0l", 5);
        cost("\"1\"", 3);
        cost("\"12\"", 4);
        cost("\"123\"", 5);
        cost("\"1\"+\"1\"", 6);
        cost("f0,e0+f0,e0", 8);
        cost("f0,e0u+f0,e0l", 10);
        cost("\"1\"+\"1\"+\"1\"", 9);
        cost("f0,e0u+\"123\"+f0,e0l", 15);
    }

    private static void shortestIs(ShownOnce x, String what, int... pieces) {
        check.due(what + ": how many", x.shortest(1), pieces.length);
        for (int i = 0; i < pieces.length; i++) {
            check.due(what + ": piece " + i, x.shortest(2 + i), pieces[i]);
        }
    }

    /** "ORDER of PROGRAMS: the least COST" */
    private static void orderByCost() {
        ShownOnce x = Check.with("a", "b");
        Check.showOf(x, 0, "a");
        shortestIs(x, "a typed one of 3 goes ahead of a cut of 4", TYPED + 'a');
        Check.showOf(x, 1, "b");
        shortestIs(x, "a cut of 4 goes ahead of one of 5", 3);
        Check.showOf(x, 0, "A");
        Check.showOf(x, 1, "B");
        shortestIs(x, "a cut of 5", 4);
        ShownOnce y = Check.with("ab12");
        Check.showOf(y, 0, "ab1");
        shortestIs(y, "a cut of 4 goes ahead of a typed one of 5", cut(0, 3, 0));
        Check.showOf(y, 0, "AB1");
        shortestIs(y, "a turned cut goes ahead of a typed one of its cost", cut(0, 3, 1));
    }

    /** "then the fewest PIECES": by that the last of the nearest are others. */
    private static void orderByPieces() {
        ShownOnce x = Check.with("-a-", "-ab--ba", "A-b-c", "X Y 1/2");
        Check.showOf(x, 0, "-a--");
        Check.showOf(x, 1, "-a--");
        check.due("25 of 64, were pieces not counted 23", x.differs(2), 25);
        check.due("23 of 64, were pieces not counted 22", x.differs(3), 23);
    }

    /** "then as rows of numbers of PIECES" */
    private static void orderByNumbers() {
        ShownOnce x = Check.with("ab", "cd");
        Check.showOf(x, 0, "ab");
        shortestIs(x, "a cut goes ahead of a typed one of its cost", cut(0, 2, 0));
        Check.showOf(x, 1, "cd");
        shortestIs(x, "the least from, then the least to", cut(0, 2, 0));
        Check.showOf(x, 0, "b");
        Check.showOf(x, 1, "d");
        shortestIs(x, "the least from, then the least to", cut(1, 2, 0));
        ShownOnce y = Check.with("abab", "cdcd");
        Check.showOf(y, 0, "ba");
        Check.showOf(y, 1, "dc");
        shortestIs(y, "of like ones the least", cut(1, 3, 0));
        Check.showOf(y, 0, "abba");
        Check.showOf(y, 1, "cddc");
        shortestIs(y, "the first pieces go ahead of the second", cut(0, 2, 0), cut(1, 3, 0));
        List<int[]> listed = List.copyOf(NaiveModel.fitsOf(List.of("abab", "cdcd"), List.of("abba", "cddc")).nearest);
        check.due("so is the first that is listed", listed.get(0)[0], cut(0, 2, 0));
        check.due("so is the first that is listed", listed.get(0)[1], cut(1, 3, 0));
    }
}
