/** Promises 17 to 26: state, doing, back, end, otherwise, keep, text, kept, run, count. */
public final class DoingTest {
    private static final Check check = new Check();
    private static final int TYPED = 1 << 24;

    public static void main(String[] args) {
        state();
        doing();
        back();
        end();
        otherwise();
        keep();
        goodTexts();
        faults();
        textFull();
        kept();
        run();
        count();
        check.close("DoingTest");
    }

    /** Two are shown; of the others 2 and 4 are like them, 3 and 5 are odd. */
    private static ShownOnce shownTwo() {
        ShownOnce x = Check.with("7", "8", "42", "a", "9", "-");
        Check.showOf(x, 0, "7");
        Check.showOf(x, 1, "8");
        return x;
    }

    private static void states(ShownOnce x, String what, String want) {
        StringBuilder got = new StringBuilder();
        for (int i = 0; i < x.count(0); i++) {
            got.append(x.state(i));
        }
        check.due(what, got.toString(), want);
    }

    private static void state() {
        ShownOnce x = shownTwo();
        check.due("thing 6", x.state(6), ShownOnce.BAD);
        check.due("thing -1", x.state(-1), ShownOnce.BAD);
        states(x, "shown", "110000");
        x.doing(2);
        states(x, "done and aside", "112300");
        Check.showOf(x, 3, "1");
        Check.showOf(x, 2, "4");
        states(x, "shown from then on", "111100");
        x.forget(2);
        states(x, "untouched", "110100");
    }

    private static void doing() {
        ShownOnce x = shownTwo();
        check.due("0", x.doing(0), ShownOnce.BAD);
        check.due("13", x.doing(13), ShownOnce.BAD);
        check.due("-1", x.doing(-1), ShownOnce.BAD);
        check.due("one", x.doing(1), 1);
        states(x, "one", "112000");
        check.due("the next two", x.doing(2), 1);
        states(x, "the next two", "112320");
        check.due("more than there are", x.doing(12), 0);
        states(x, "all", "112323");
        check.due("none left", x.doing(12), 0);
        check.due("end", Check.spell(i -> x.end(2, i)), "4");
        Check.showOf(x, 1, "x");
        check.due("nothing fits", x.doing(1), ShownOnce.NONE);
        check.due("bad goes ahead", x.doing(0), ShownOnce.BAD);
        x.forget(0);
        x.forget(1);
        check.due("nothing shown", x.doing(1), ShownOnce.NOT);
        states(x, "refused", "002323");
    }

    private static void back() {
        ShownOnce x = shownTwo();
        check.due("none", x.back(), ShownOnce.NONE);
        x.doing(0);
        check.due("a refused one", x.back(), ShownOnce.NONE);
        x.doing(1);
        x.doing(3);
        states(x, "done", "112323");
        check.due("the latest", x.back(), 3);
        states(x, "the latest", "112000");
        check.due("the one ahead", x.back(), 1);
        states(x, "the one ahead", "110000");
        check.due("none that was not", x.back(), ShownOnce.NONE);
        x.doing(4);
        Check.showOf(x, 2, "4");
        check.due("what was shown since stays", x.back(), 3);
        states(x, "what was shown since stays", "111000");
        x.doing(1);
        x.forget(2);
        x.doing(1);
        states(x, "a forgotten one is done by a later doing", "112300");
        check.due("of the later doing", x.back(), 1);
        states(x, "of the later doing", "110300");
        Check.showOf(x, 3, "5");
        x.forget(3);
        check.due("shown and forgotten is untouched already", x.back(), 0);
        check.due("no more", x.back(), ShownOnce.NONE);
        x.doing(12);
        x.doing(12);
        check.due("a doing of nothing", x.back(), 0);
        check.due("the doing ahead of it", x.back(), 4);
    }

    private static void end() {
        ShownOnce x = shownTwo();
        check.due("thing 6", x.end(6, -1), ShownOnce.BAD);
        check.due("thing -1", x.end(-1, -1), ShownOnce.BAD);
        check.due("untouched", x.end(2, 0), ShownOnce.NONE);
        check.due("shown", Check.spell(i -> x.end(1, i)), "8");
        x.doing(2);
        check.due("done", Check.spell(i -> x.end(2, i)), "4");
        check.due("aside", x.end(3, 0), ShownOnce.NONE);
        check.due("no such byte", x.end(2, 1), ShownOnce.BAD);
        check.due("no such byte", x.end(2, -2), ShownOnce.BAD);
        x.forget(0);
        check.due("it stays what it was", Check.spell(i -> x.end(2, i)), "4");
        Check.showOf(x, 2, "two");
        check.due("put right by hand", Check.spell(i -> x.end(2, i)), "two");
        x.forget(2);
        check.due("forgotten", x.end(2, -1), ShownOnce.NONE);
    }

    private static void otherwise() {
        ShownOnce x = shownTwo();
        check.due("nothing done", x.otherwise(), 0);
        x.doing(12);
        check.due("as they are", x.otherwise(), 0);
        Check.showOf(x, 0, "7!");
        Check.showOf(x, 1, "8!");
        check.due("another end", x.otherwise(), 4 | 16);
        Check.showOf(x, 0, "7");
        Check.showOf(x, 1, "x");
        check.due("nothing fits", x.otherwise(), ShownOnce.NONE);
        x.forget(0);
        x.forget(1);
        check.due("nothing shown", x.otherwise(), ShownOnce.NOT);
        ShownOnce y = Check.with("a1", "b2", "cc", "dd4", "E5");
        Check.showOf(y, 0, "a");
        Check.showOf(y, 1, "b");
        check.due("the first bytes", y.doing(2), 2);
        check.due("the same", y.otherwise(), 0);
        Check.showOf(y, 0, "1a");
        Check.showOf(y, 1, "2b");
        Check.showOf(y, 4, "5E");
        int bits = y.otherwise();
        check.due("another end and nothing", bits, 4 | 8);
    }

    private static void keep() {
        ShownOnce x = Check.with("7", "8");
        check.due("nothing shown", x.keep(), ShownOnce.NOT);
        Check.showOf(x, 0, "7");
        check.due("kept", x.keep(), 0);
        Check.showOf(x, 1, "8");
        check.due("another", x.keep(), 1);
        Check.showOf(x, 1, "x");
        check.due("nothing fits", x.keep(), ShownOnce.NONE);
        x.forget(1);
        check.due("the third", x.keep(), 2);
        check.due("the fourth", x.keep(), 3);
        check.due("the fifth", x.keep(), ShownOnce.FULL);
        check.due("the first stays what it was", x.kept(0, 2), TYPED + '7');
        check.due("the second", x.kept(1, 2), 3);
        Check.showOf(x, 1, "x");
        check.due("none goes ahead of full", x.keep(), ShownOnce.NONE);
        x.forget(0);
        x.forget(1);
        check.due("not goes ahead of full", x.keep(), ShownOnce.NOT);
    }

    private static void text(String text, int cost, int... pieces) {
        ShownOnce x = new ShownOnce();
        check.due(text, Check.textOf(x, text), 0);
        check.due(text + ": cost", x.kept(0, 0), cost);
        check.due(text + ": pieces", x.kept(0, 1), pieces.length);
        for (int i = 0; i < 3; i++) {
            check.due(text + ": piece " + i, x.kept(0, 2 + i), i < pieces.length ? pieces[i] : ShownOnce.BAD);
        }
    }

    private static int cut(int from, int to, int turn) {
        return 120 * from + 3 * to + turn;
    }

    private static void goodTexts() {
        text("f0,e0", 4, cut(0, 8, 0));
        text("f7,e7u", 5, cut(7, 15, 1));
        text("e7,f7l", 5, cut(15, 7, 2));
        text("  f 0 , e 0  u ", 5, cut(0, 8, 1));
        String kinds = "dwcs";
        String which = "12z";
        for (int kind = 0; kind < 4; kind++) {
            for (int i = 0; i < 3; i++) {
                String run = "" + kinds.charAt(kind) + which.charAt(i);
                int place = 16 + 6 * kind + i;
                text("b" + run + ",a" + run, 4, cut(place, place + 3, 0));
            }
        }
        text("\"x\"", 3, TYPED + 'x');
        text("\"xy\"", 4, 2 * TYPED + ('x' << 8) + 'y');
        text("\"xyz\"", 5, 3 * TYPED + ('x' << 16) + ('y' << 8) + 'z');
        text(" \"   \" ", 5, 3 * TYPED + (' ' << 16) + (' ' << 8) + ' ');
        text("\"+\"+\",\"", 6, TYPED + '+', TYPED + ',');
        text("f0,f1+f1,f2", 8, cut(0, 1, 0), cut(1, 2, 0));
        text("f0,f1u+\"-\"+f1,f2", 12, cut(0, 1, 1), TYPED + '-', cut(1, 2, 0));
        text("\"a\"+\"b\"+\"c\"", 9, TYPED + 'a', TYPED + 'b', TYPED + 'c');
        text("bw1 , aw1 l + \" , \" + bd2, ad2 u", 15, cut(22, 25, 2),
            3 * TYPED + (' ' << 16) + (',' << 8) + ' ', cut(17, 20, 1));
    }

    private static void fault(String text, int place) {
        ShownOnce x = new ShownOnce();
        check.due("[" + text + "]", Check.textOf(x, text), -20 - place);
        check.due("nothing is kept", x.count(4), 0);
        check.due("the tape is empty", x.type('x', 1), 1);
    }

    private static void faults() {
        fault("", 0);
        fault("   ", 3);
        fault("x", 0);
        fault(" x", 1);
        fault("+", 0);
        fault(",", 0);
        fault("f", 1);
        fault("f  ", 3);
        fault("f8,e0", 1);
        fault("f 8", 2);
        fault("f0", 2);
        fault("f0 e0", 3);
        fault("f0,", 3);
        fault("f0,x", 3);
        fault("f0,e8", 4);
        fault("F0,e0", 0);
        fault("f0,e0ul", 6);
        fault("f0,e0 x", 6);
        fault("f0,e0u u", 7);
        fault("b1,e0", 1);
        fault("bd3,e0", 2);
        fault("bdz", 3);
        fault("bx1", 1);
        fault("f0,e0+", 6);
        fault("f0,e0+ ", 7);
        fault("f0,e0++", 6);
        fault("f0,e0+x", 6);
        fault("f0,e0+f0,e0+", 11);
        fault("f0,e0+f0,e0+\"x\"", 11);
        fault("f0,e0 + f0,e0 u + f0,e0", 16);
        fault("\"a\"+f0,e0+\"x\"", 9);
        fault("\"a\"+\"b\"+\"c\"+", 11);
        fault("\"a\"+\"b\"+\"c\"+\"d\"", 11);
        fault("\"a\"+\"b\"+", 8);
        fault("\"a\"+\"b\"+x", 8);
        fault("\"", 1);
        fault("\"\"", 1);
        fault("\"abcd\"", 4);
        fault("\"abc ", 4);
        fault("\"ab", 3);
        fault("\"a\"u", 3);
        fault("\"a\"\"b\"", 3);
        fault("\"a\" \"b\"", 4);
        fault(" ".repeat(59) + "x", 59);
        fault(" ".repeat(60), 60);
    }

    private static void textFull() {
        ShownOnce x = new ShownOnce();
        for (int i = 0; i < 4; i++) {
            check.due("text " + i, Check.textOf(x, "f0,e" + i), i);
        }
        check.due("full", Check.textOf(x, "f0,e4"), ShownOnce.FULL);
        check.due("the tape is empty behind full", x.text(), -20);
        check.due("a fault goes ahead of full", Check.textOf(x, "f0;e4"), -22);
        check.due("four", x.count(4), 4);
        check.due("the last", x.kept(3, 2), cut(0, 11, 0));
    }

    private static void kept() {
        ShownOnce x = new ShownOnce();
        check.due("no program", x.kept(0, 0), ShownOnce.BAD);
        Check.textOf(x, "f0,e0+\"ab\"");
        check.due("program -1", x.kept(-1, 0), ShownOnce.BAD);
        check.due("program 1", x.kept(1, 0), ShownOnce.BAD);
        check.due("what -1", x.kept(0, -1), ShownOnce.BAD);
        check.due("what 5", x.kept(0, 5), ShownOnce.BAD);
        check.due("cost", x.kept(0, 0), 8);
        check.due("pieces", x.kept(0, 1), 2);
        check.due("piece 0", x.kept(0, 2), cut(0, 8, 0));
        check.due("piece 1", x.kept(0, 3), 2 * TYPED + ('a' << 8) + 'b');
        check.due("piece 2", x.kept(0, 4), ShownOnce.BAD);
    }

    private static void run() {
        ShownOnce x = Check.with("Ann Lee 12", "0123456789abcdef", "-");
        Check.textOf(x, "bw2,aw2u+\", \"+bw1,f1");
        Check.textOf(x, "f0,e0+\"---\"+f0,e0");
        check.due("turned about", Check.spell(i -> x.run(0, 0, i)), "LEE, A");
        check.due("nothing", Check.spell(i -> x.run(0, 1, i)), null);
        check.due("none goes ahead of no such byte", x.run(0, 1, 50), ShownOnce.NONE);
        check.due("a number that is not as told", x.run(0, 1, -2), ShownOnce.BAD);
        check.due("35 bytes", Check.spell(i -> x.run(1, 1, i)), "0123456789abcdef---0123456789abcdef");
        check.due("five", Check.spell(i -> x.run(1, 2, i)), "-----");
        check.due("program 2", x.run(2, 0, 0), ShownOnce.BAD);
        check.due("program -1", x.run(-1, 0, 0), ShownOnce.BAD);
        check.due("thing 3", x.run(0, 3, 0), ShownOnce.BAD);
        check.due("thing -1", x.run(0, -1, 0), ShownOnce.BAD);
        check.due("no such byte", x.run(1, 2, 5), ShownOnce.BAD);
        check.due("no such byte", x.run(1, 2, -2), ShownOnce.BAD);
        check.due("nothing is shown by it", x.count(1), 0);
    }

    private static void count() {
        ShownOnce x = shownTwo();
        x.doing(3);
        x.keep();
        check.due("things", x.count(0), 6);
        check.due("shown", x.count(1), 2);
        check.due("done", x.count(2), 2);
        check.due("aside", x.count(3), 1);
        check.due("kept", x.count(4), 1);
        check.due("-1", x.count(-1), ShownOnce.BAD);
        check.due("5", x.count(5), ShownOnce.BAD);
        x.back();
        check.due("done no more", x.count(2), 0);
        check.due("aside no more", x.count(3), 0);
    }
}
