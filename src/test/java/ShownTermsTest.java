import java.util.HashMap;
import java.util.List;
import java.util.Map;

/** The sentences of the second and third part of "Terms" that name a boundary, one method each. */
public final class ShownTermsTest {
    private static final Check check = new Check();

    public static void main(String[] args) {
        shownLinesAreOneToTwelveBytes();
        fourThingsAreShown();
        fittingMakeJustThat();
        nearestAreTheFirst64();
        nearestAreAllIfFewer();
        nearestAreAsListed();
        shortestIsTheFirst();
        nothingCountsAsOneEnd();
        settlingTakesTheLeastGreatest();
        settlingTakesTheFirstOfLikeOnes();
        shapesTellFourKinds();
        shapesJoinLikeOnes();
        oddOfTwelve();
        oddIsNothing();
        slipsAreTheFewest();
        slipsAreTheLeastBits();
        doingTakesTheNextUntouched();
        doingsAreTakenBackOnce();
        shownSinceStays();
        shownFromThenOn();
        otherwiseIsAnotherEndOrNothing();
        fourAreKept();
        textPlaces();
        textTurns();
        textTypedPieces();
        textPieces();
        faultsSkipBlanks();
        faultsAtTheEnd();
        check.close("ShownTermsTest");
    }

    /** "SHOWN is of a THING what somebody made of it: a LINE of 1 to 12 bytes" */
    private static void shownLinesAreOneToTwelveBytes() {
        for (int size = 0; size <= 60; size++) {
            ShownOnce x = Check.with("abcdefghijklmnop");
            boolean fits = size >= 1 && size <= 12;
            check.due("an end of " + size, Check.showOf(x, 0, "a".repeat(size)), fits ? 1 : ShownOnce.NOT);
            check.due("is shown", x.end(0, -1), fits ? size : ShownOnce.NONE);
        }
    }

    /** "4 THINGS at most are SHOWN" */
    private static void fourThingsAreShown() {
        ShownOnce x = Check.with("1", "2", "3", "4", "5");
        for (int i = 0; i < 4; i++) {
            check.due("shown", Check.showOf(x, i, "x"), i + 1);
        }
        check.due("a fifth", Check.showOf(x, 4, "x"), ShownOnce.FULL);
        check.due("one of the four", Check.showOf(x, 2, "x"), 4);
        check.due("one less", x.forget(1), 3);
        check.due("another fourth", Check.showOf(x, 4, "x"), 4);
        check.due("a fifth again", Check.showOf(x, 1, "x"), ShownOnce.FULL);
    }

    /** "FITTING are PROGRAMS that make of each SHOWN THING just that." */
    private static void fittingMakeJustThat() {
        ShownOnce x = Check.with("ab", "cd", "ef", "gh");
        Check.showOf(x, 0, "a");
        Check.showOf(x, 1, "c");
        Check.showOf(x, 2, "e");
        check.due("three agree: four places from, two to, two turns", x.fitting(1), 16);
        Check.showOf(x, 3, "gh");
        check.due("a byte too many of the last", x.fitting(0), 0);
        Check.showOf(x, 3, "h");
        check.due("another byte of the last", x.fitting(0), 0);
        Check.showOf(x, 3, "g");
        check.due("four agree", x.fitting(0), 16);
        Check.showOf(x, 0, "ax");
        check.due("a byte too many of the first", x.fitting(0), 0);
    }

    /** "THE NEAREST are the first 64": with 63 or 65 the things below would differ by one less or more. */
    private static void nearestAreTheFirst64() {
        ShownOnce x = Check.with("--aa-a-", "Eve 9", "Bob-7");
        Check.showOf(x, 0, "-");
        check.due("there are more", x.fitting(0) > 64 ? 1 : 0, 1);
        check.due("11 of 63, 13 of 65", x.differs(1), 12);
        check.due("10 of 63, 12 of 65", x.differs(2), 11);
        ShownOnce y = Check.with("--1ba-", "A-b-c", "Bob-7", "Eve 9");
        Check.showOf(y, 0, "-1B");
        check.due("22 of 63, 24 of 65", y.differs(1), 23);
        check.due("21 of 63, 23 of 65", y.differs(2), 22);
        check.due("22 of 63, 24 of 65", y.differs(3), 23);
    }

    /** "(all, if these are fewer)" */
    private static void nearestAreAllIfFewer() {
        ShownOnce x = Check.with("q", "rs");
        Check.showOf(x, 0, "1234567");
        check.due("six fit", x.fitting(0), 6);
        check.due("they make one end", x.differs(1), 1);
        Check.showOf(x, 0, "1");
        check.due("one fits", x.fitting(0), 1);
        check.due("it makes one end", x.differs(1), 1);
        Check.showOf(x, 0, "q");
        check.due("33 fit", x.fitting(0), 33);
        check.due("q, r, rs, s, nothing", x.differs(1), 5);
    }

    private static Map<String, Integer> endsOf(String line, String end, String other) {
        Map<String, Integer> makers = new HashMap<>();
        for (int[] program : NaiveModel.fitsOf(List.of(line), List.of(end)).nearest) {
            makers.merge(String.valueOf(NaiveModel.madeBy(program, other)), 1, Integer::sum);
        }
        return makers;
    }

    /** The same 64 as the first of a list of all. */
    private static void nearestAreAsListed() {
        String[] others = {"Eve 9", "cy Dow 345", "A-b-c", "a1b2", "42", "x"};
        String[][] shown = {
            {"7", "77"}, {"7", "7-7"}, {"a", "aa"}, {"a1", "1a"}, {"Ab", "bA"}, {"a-b", "b-a"}, {"ab 1", "1 ab"}, {"x", "x--x"},
            {"x", "xyz"}, {"1a", "a1!"}, {"x", "abcx"}, {"--1ba-", "-1B"}, {"b1ab-a", "a1-aAB"}, {"b1-1bab", "b1-1aa"},
        };
        for (String[] pair : shown) {
            ShownOnce x = Check.with(pair[0], others[0], others[1], others[2], others[3], others[4], others[5]);
            Check.showOf(x, 0, pair[1]);
            int best = 0;
            int least = 65;
            for (int i = 0; i < others.length; i++) {
                Map<String, Integer> makers = endsOf(pair[0], pair[1], others[i]);
                check.due(pair[0] + " -> " + pair[1] + ", " + others[i] + " differs", x.differs(1 + i), makers.size());
                int greatest = java.util.Collections.max(makers.values());
                best = greatest < least ? 1 + i : best;
                least = Math.min(least, greatest);
            }
            check.due(pair[0] + " -> " + pair[1] + " settles", x.settle(), best);
        }
    }

    /** "THE SHORTEST is the first FITTING one in ORDER": the next ones make other ends. */
    private static void shortestIsTheFirst() {
        ShownOnce x = Check.with("7", "42");
        Check.showOf(x, 0, "7");
        check.due("\"7\", not f0,f1", Check.spell(i -> x.paper(1, i)), "7");
        check.due("it is kept", x.kept(x.keep(), 0), 3);
        ShownOnce y = Check.with("ab", "cd", "efg");
        Check.showOf(y, 0, "ab");
        Check.showOf(y, 1, "cd");
        check.due("f0,f2, not f0,e0", Check.spell(i -> y.paper(2, i)), "ef");
        check.due("done", y.doing(1), 1);
        check.due("f0,f2, not f0,e0", Check.spell(i -> y.end(2, i)), "ef");
        check.due("as now", y.otherwise(), 0);
    }

    /** "THINGS DIFFER by how many unlike ends THE NEAREST make of them (nothing counts as one)." */
    private static void nothingCountsAsOneEnd() {
        ShownOnce x = Check.with("7", "8", "a", "12");
        Check.showOf(x, 0, "7");
        Check.showOf(x, 1, "8");
        check.due("a, A, and nothing in many ways", x.differs(2), 3);
        check.due("1, 12, 2, nothing", x.differs(3), 4);
        check.due("of a shown one just that", x.differs(0), 1);
    }

    /** "that for which the greatest number of THE NEAREST that make one and the same end is least" */
    private static void settlingTakesTheLeastGreatest() {
        // Of 49 programs 36 make nothing of a, 27 make 42 of 42, 49 make 7 of 7.
        ShownOnce x = Check.with("7", "7", "a", "42");
        Check.showOf(x, 0, "7");
        check.due("42", x.settle(), 3);
        Check.showOf(x, 3, "4");
        check.due("of the shown ones none", x.settle() == 3 || x.settle() == 0 ? 1 : 0, 0);
        ShownOnce y = Check.with("42", "7", "7");
        Check.showOf(y, 1, "7");
        check.due("the first thing", y.settle(), 0);
    }

    /** "of like ones the first" */
    private static void settlingTakesTheFirstOfLikeOnes() {
        ShownOnce x = Check.with("42", "42", "7", "42");
        Check.showOf(x, 2, "7");
        check.due("of three the first", x.settle(), 0);
        Check.showOf(x, 0, "42");
        check.due("then the next", x.settle(), 1);
        Check.showOf(x, 1, "42");
        check.due("then the last", x.settle(), 3);
        Check.showOf(x, 3, "42");
        check.due("all are shown", x.settle(), ShownOnce.NONE);
    }

    private static int shapeKind(int b) {
        return b >= 48 && b <= 57 ? 0 : b >= 97 && b <= 122 ? 1 : b >= 65 && b <= 90 ? 2 : 3;
    }

    /** "the row of KINDS of what stands in it (0 digits, 1 small letters, 2 capitals, 3 signs)" */
    private static void shapesTellFourKinds() {
        String[][] shown = {{"0", "9"}, {"a", "z"}, {"A", "Z"}, {"/", "{"}};
        for (int kind = 0; kind < 4; kind++) {
            for (int b = 32; b <= 126; b++) {
                ShownOnce x = Check.with(shown[kind][0], shown[kind][1], String.valueOf((char) b));
                Check.showOf(x, 0, shown[kind][0]);
                Check.showOf(x, 1, shown[kind][1]);
                check.due("byte " + b + " among kind " + kind, x.odd(2), shapeKind(b) == kind ? 0 : 1);
            }
        }
    }

    private static void odd(String line, int want) {
        ShownOnce x = Check.with("a1", "bb22", line);
        Check.showOf(x, 0, "a1");
        Check.showOf(x, 1, "bb22");
        check.due("odd " + line, x.odd(2), want);
    }

    /** "of like ones side by side one" */
    private static void shapesJoinLikeOnes() {
        odd("c3", 0);
        odd("cccccccc33333333", 0);
        odd("c", 1);
        odd("3", 1);
        odd("3c", 1);
        odd("c3c", 1);
        odd("c3-", 1);
        odd("-c3", 1);
        odd("C3", 1);
        odd("cC3", 1);
        odd("c3c3c3c3c3c3c3c3", 1);
        ShownOnce x = Check.with("ab", "c", "1d", "2");
        Check.showOf(x, 0, "ab");
        Check.showOf(x, 1, "c");
        check.due("digits ahead of letters are not letters", x.odd(2), 1);
        check.due("digits alone are not letters", x.odd(3), 1);
        Check.showOf(x, 3, "2");
        check.due("nor digits", x.odd(2), 1);
    }

    private static void oddOfTwelve() {
        ShownOnce x = Check.with("1", "2", "3", "4", "5", "6", "7", "8", "9", "0", "-", "a");
        Check.showOf(x, 0, "1");
        Check.showOf(x, 1, "2");
        check.due("the eleventh of twelve", x.odd(10), 1);
        check.due("the twelfth", x.odd(11), 1);
        check.due("all are touched", x.doing(12), 8);
        check.due("two are aside", x.count(3), 2);
    }

    /** "ODD is a THING of which THE SHORTEST makes nothing" */
    private static void oddIsNothing() {
        ShownOnce x = Check.with("a1", "bc2", "d", "5");
        Check.showOf(x, 0, "1");
        Check.showOf(x, 1, "2");
        check.due("the last byte is no digit", x.odd(2), 1);
        check.due("the last byte is a digit", x.odd(3), 0);
        Check.showOf(x, 0, "a");
        Check.showOf(x, 1, "bc");
        check.due("nothing is made", x.paper(2, -1), ShownOnce.NONE);
        check.due("nothing ahead of the digits", x.odd(2), 1);
        check.due("nothing ahead of the digits", x.odd(3), 1);
    }

    /** "SLIPS: if nothing is FITTING, the fewest SHOWN THINGS (bits) without which something is" */
    private static void slipsAreTheFewest() {
        ShownOnce x = Check.with("1", "2", "3", "4");
        Check.showOf(x, 0, "1");
        Check.showOf(x, 1, "2");
        Check.showOf(x, 2, "3");
        Check.showOf(x, 3, "4");
        check.due("none", x.slips(), 0);
        for (int i = 0; i < 4; i++) {
            Check.showOf(x, i, "x");
            check.due("one of four", x.slips(), 1 << i);
            Check.showOf(x, i, String.valueOf(i + 1));
        }
        Check.showOf(x, 1, "v");
        Check.showOf(x, 3, "w");
        check.due("two of four", x.slips(), 2 | 8);
        Check.showOf(x, 0, "u");
        check.due("three of four, as each fits alone", x.slips(), 1 | 2 | 4);
        ShownOnce y = Check.with("1", "2", "3");
        Check.showOf(y, 0, "1!1");
        Check.showOf(y, 1, "x");
        Check.showOf(y, 2, "3!3");
        check.due("three pieces fit the others", y.slips(), 2);
        Check.showOf(y, 0, "1!");
        Check.showOf(y, 2, "3!");
        check.due("two pieces fit the others", y.slips(), 2);
        String tooLong = "1234567890";
        Check.showOf(x, 1, tooLong);
        Check.showOf(x, 2, tooLong);
        Check.showOf(x, 3, tooLong);
        check.due("the one that fits is left", x.slips(), 2 | 4 | 8);
        Check.showOf(x, 0, tooLong);
        check.due("all four", x.slips(), 15);
    }

    /** "of like ones the least bits" */
    private static void slipsAreTheLeastBits() {
        ShownOnce x = Check.with("1", "2", "3", "4", "5", "6", "7", "8", "9", "a", "b", "c");
        Check.showOf(x, 11, "c");
        Check.showOf(x, 10, "x");
        check.due("of two the lower thing", x.slips(), 1 << 10);
        Check.showOf(x, 9, "a");
        Check.showOf(x, 8, "x");
        check.due("of two pairs the one with the lower bits", x.slips(), 1 << 8 | 1 << 10);
        Check.showOf(x, 9, "x");
        Check.showOf(x, 8, "9");
        check.due("of two pairs the one with the lower bits", x.slips(), 1 << 9 | 1 << 10);
        Check.showOf(x, 8, "x");
        check.due("the fewest go ahead of the least bits", x.slips(), 1 << 11);
    }

    private static String states(ShownOnce x) {
        StringBuilder got = new StringBuilder();
        for (int i = 0; i < x.count(0); i++) {
            got.append(x.state(i));
        }
        return got.toString();
    }

    private static ShownOnce digits() {
        ShownOnce x = Check.with("3", "-", "7", "x", "8", "5");
        Check.showOf(x, 2, "7");
        Check.showOf(x, 4, "8");
        return x;
    }

    /** "DOING n: the next n untouched THINGS, by numbers, are DONE by THE SHORTEST, ODD ones are set ASIDE." */
    private static void doingTakesTheNextUntouched() {
        ShownOnce x = digits();
        check.due("untouched and shown", states(x), "001010");
        check.due("one", x.doing(1), 1);
        check.due("the first", states(x), "201010");
        check.due("one more", x.doing(1), 0);
        check.due("an odd one counts among them", states(x), "231010");
        check.due("two more", x.doing(2), 1);
        check.due("shown ones do not", states(x), "231312");
        check.due("none left", x.doing(1), 0);
        check.due("as they were", states(x), "231312");
        ShownOnce y = digits();
        check.due("more than there are", y.doing(12), 2);
        check.due("all", states(y), "231312");
        check.due("a new one", Check.thingOf(y, "6"), 6);
        check.due("is untouched", y.state(6), 0);
        check.due("and next", y.doing(1), 1);
    }

    /** "Each DOING can be taken back (the latest one that was not ahead ..)" */
    private static void doingsAreTakenBackOnce() {
        ShownOnce x = digits();
        check.due("none yet", x.back(), ShownOnce.NONE);
        x.doing(1);
        x.doing(2);
        x.doing(1);
        check.due("done", states(x), "231312");
        check.due("the third", x.back(), 1);
        check.due("the second", x.back(), 2);
        check.due("the first is left", states(x), "201010");
        check.due("with its end", x.end(0, 0), '3');
        check.due("the others are without", x.end(5, 0), ShownOnce.NONE);
        check.due("another", x.doing(1), 0);
        check.due("it is taken back", x.back(), 1);
        check.due("then the first", x.back(), 1);
        check.due("untouched", states(x), "001010");
        check.due("none is left", x.back(), ShownOnce.NONE);
        check.due("none is left", x.back(), ShownOnce.NONE);
    }

    /** "what was SHOWN since stays" */
    private static void shownSinceStays() {
        ShownOnce x = digits();
        x.doing(12);
        Check.showOf(x, 0, "3");
        Check.showOf(x, 3, "x");
        check.due("two are untouched again", x.back(), 2);
        check.due("two stay", states(x), "101110");
        check.due("with their ends", x.end(3, 0), 'x');
        ShownOnce y = digits();
        y.doing(1);
        Check.showOf(y, 0, "3");
        check.due("none is untouched again", y.back(), 0);
        check.due("it stays", y.state(0), 1);
        check.due("none is left", y.back(), ShownOnce.NONE);
        y.forget(0);
        check.due("forgotten it is untouched", y.state(0), 0);
    }

    /** "A THING that is SHOWN and was DONE, or ASIDE, is SHOWN from then on." */
    private static void shownFromThenOn() {
        ShownOnce x = digits();
        x.doing(2);
        Check.showOf(x, 0, "3!");
        Check.showOf(x, 1, "-!");
        check.due("shown", states(x), "111010");
        check.due("four are", x.count(1), 4);
        check.due("none is done", x.count(2), 0);
        check.due("none is aside", x.count(3), 0);
        check.due("what was done is another end", Check.spell(i -> x.end(0, i)), "3!");
        x.forget(0);
        check.due("then untouched, not done", x.state(0), 0);
        check.due("without an end", x.end(0, -1), ShownOnce.NONE);
    }

    /** "OTHERWISE are THINGS that are DONE, of which THE SHORTEST now makes another end, or nothing." */
    private static void otherwiseIsAnotherEndOrNothing() {
        ShownOnce x = Check.with("a1", "b2", "c3", "dd", "e");
        Check.showOf(x, 0, "a");
        Check.showOf(x, 1, "b");
        check.due("done", x.doing(3), 3);
        check.due("the same", x.otherwise(), 0);
        Check.showOf(x, 0, "1");
        Check.showOf(x, 1, "2");
        check.due("another end, the same end by another program, nothing", x.otherwise(), 4 | 16);
        check.due("of the last nothing is made", x.paper(4, -1), ShownOnce.NONE);
        check.due("the end is what it was", x.end(4, 0), 'e');
        Check.showOf(x, 2, "3");
        check.due("a shown one is not among them", x.otherwise(), 16);
        Check.showOf(x, 0, "a");
        Check.showOf(x, 1, "b");
        Check.showOf(x, 2, "c");
        check.due("the same again", x.otherwise(), 0);
        ShownOnce y = Check.with("5", "6", "7", "8");
        Check.showOf(y, 1, "6");
        Check.showOf(y, 2, "7");
        y.doing(12);
        check.due("the first and the last are done", states(y), "2112");
        Check.showOf(y, 1, "6!");
        Check.showOf(y, 2, "7!");
        check.due("the first and the last thing", y.otherwise(), 1 | 8);
    }

    /** "KEPT are PROGRAMS 0 .. 3" */
    private static void fourAreKept() {
        ShownOnce x = Check.with("7");
        Check.showOf(x, 0, "7");
        check.due("0", x.keep(), 0);
        check.due("1", Check.textOf(x, "f0,e0"), 1);
        check.due("2", x.keep(), 2);
        check.due("3", Check.textOf(x, "f0,e0"), 3);
        check.due("no 4 by keeping", x.keep(), ShownOnce.FULL);
        check.due("no 4 by a text", Check.textOf(x, "f0,e0"), ShownOnce.FULL);
        check.due("four", x.count(4), 4);
        check.due("program 3", x.kept(3, 0), 4);
        check.due("program 4", x.kept(4, 0), ShownOnce.BAD);
    }

    /** What a text answers on a new object. */
    private static int answer(String text) {
        return Check.textOf(new ShownOnce(), text);
    }

    private static void fault(String text, int place) {
        check.due("[" + text + "]", answer(text), -20 - place);
    }

    /** One byte is changed to each of all bytes: only those listed, and a blank where one may stand, are good. */
    private static void onlyAt(String text, int at, String good) {
        for (int b = 33; b <= 126; b++) {
            String changed = text.substring(0, at) + (char) b + text.substring(at + 1);
            boolean fits = good.indexOf(b) >= 0;
            int got = answer(changed);
            check.due("[" + changed + "]", got == -20 - at ? 0 : 1, fits ? 1 : 0);
        }
    }

    /** "a PLACE is f or e and a digit 0 .. 7, or b or a, d w c s, and 1 2 z" */
    private static void textPlaces() {
        onlyAt("f0,e0", 0, "feba\"");
        onlyAt("f0,e0", 1, "01234567");
        onlyAt("f0,e0", 2, ",");
        onlyAt("f0,e0", 3, "feba");
        onlyAt("f0,e0", 4, "01234567");
        onlyAt("e0,bw1", 1, "01234567");
        onlyAt("bw1,e0", 1, "dwcs");
        onlyAt("bw1,e0", 2, "12z");
        onlyAt("aw1,e0", 1, "dwcs");
        onlyAt("aw1,e0", 2, "12z");
        onlyAt("f0,bw1", 4, "dwcs");
        onlyAt("f0,bw1", 5, "12z");
    }

    /** "a CUT is a PLACE, a comma, a PLACE, and perhaps u (TURN 1), or l (2)" */
    private static void textTurns() {
        onlyAt("f0,e0x", 5, "ul+");
        onlyAt("f0,aw1x", 6, "ul+");
        onlyAt("f0,e0ux", 6, "+");
        onlyAt("f0,e0lx", 6, "+");
        fault("f0,e0uu", 6);
        fault("f0,e0ul", 6);
        fault("f0u,e0", 2);
        fault("u", 0);
    }

    /** "a TYPED one is 1 to 3 bytes (no \") between two \"" */
    private static void textTypedPieces() {
        fault("\"\"", 1);
        check.due("one", answer("\"1\""), 0);
        check.due("two", answer("\"12\""), 0);
        check.due("three", answer("\"123\""), 0);
        fault("\"1234\"", 4);
        fault("\"\"\"", 1);
        fault("\"1\"\"", 3);
        check.due("one blank", answer("\" \""), 0);
        check.due("three blanks", answer("\"   \""), 0);
        fault("\"    \"", 4);
        for (int b = 32; b <= 126; b++) {
            if (b != '"') {
                ShownOnce x = new ShownOnce();
                check.due("byte " + b, Check.textOf(x, "\"" + (char) b + "\""), 0);
                check.due("its number", x.kept(0, 2), (1 << 24) + b);
            }
        }
        fault("\"1\"u", 3);
        fault("\"1\"l", 3);
    }

    /** "1 to 3 PIECES with + between (of three the second one TYPED)", "if it is a CUT, the + behind it" */
    private static void textPieces() {
        check.due("two cuts", answer("f0,e0+f0,e0"), 0);
        check.due("three, the second typed", answer("f0,e0+\"-\"+f0,e0"), 0);
        check.due("three typed", answer("\"1\"+\"2\"+\"3\""), 0);
        fault("f0,e0+f0,e0+f0,e0", 11);
        fault("f0,e0+f0,e0u+f0,e0", 12);
        fault("f0,e0+f0,e0+\"-\"", 11);
        fault("\"-\"+f0,e0+\"-\"", 9);
        fault("\"-\"+f0,e0+", 9);
        fault("f0,e0+f0,e0+x", 11);
        fault("f0,e0+f0,e0 +", 12);
        fault("\"1\"+\"2\"+\"3\"+\"4\"", 11);
        fault("f0,e0+\"-\"+f0,e0+", 15);
        fault("f0,e0+\"-\"+f0,e0u+f0,e0", 16);
        fault("+f0,e0", 0);
        fault("f0,e0++f0,e0", 6);
        fault("f0,e0 f0,e0", 6);
        fault("f0,e0\"-\"", 5);
    }

    /** "the place of the first byte (blanks do not count, but between two \") that can't stand there" */
    private static void faultsSkipBlanks() {
        check.due("blanks all over", answer(" b w 1 , a w 1 u + \" - \" + f 0 , e 0 l "), 0);
        fault(" x", 1);
        fault("f 8", 2);
        fault("b  x", 3);
        fault("bw   3", 5);
        fault("f0   e0", 5);
        fault("f0, x", 4);
        fault("f0,e0  x", 7);
        fault("f0,e0 + x", 8);
        fault("f0,e0 + f0,e0 + x", 14);
        fault("\"1\"  \"2\"", 5);
        fault("\" 12 \"", 4);
        fault("\"12 3\"", 4);
    }

    /** "(the end: how many bytes there are)" */
    private static void faultsAtTheEnd() {
        fault("", 0);
        fault(" ", 1);
        fault("  ", 2);
        fault("f", 1);
        fault("f ", 2);
        fault("b", 1);
        fault("bw", 2);
        fault("bw1", 3);
        fault("bw1,", 4);
        fault("bw1,a", 5);
        fault("bw1,aw", 6);
        fault("f0,e0+", 6);
        fault("f0,e0+  ", 8);
        fault("\"", 1);
        fault("\"1", 2);
        fault("\"12", 3);
        fault("\"123", 4);
        fault("\"1\"+\"2\"+", 8);
        fault(" ".repeat(60), 60);
        fault("f" + " ".repeat(59), 60);
        check.due("sixty bytes", answer("f0,e0" + " ".repeat(55)), 0);
        fault(" ".repeat(59) + "f", 60);
        fault(" ".repeat(59) + "+", 59);
    }
}
