/** Promises 1 to 7: a new object, type, thing, line, byteAt, place, made. */
public final class ThingsTest {
    private static final Check check = new Check();

    public static void main(String[] args) {
        newObject();
        type();
        thing();
        line();
        byteAt();
        place();
        made();
        check.close("ThingsTest");
    }

    private static void newObject() {
        ShownOnce x = new ShownOnce();
        for (int what = 0; what <= 4; what++) {
            check.due("new: count(" + what + ")", x.count(what), 0);
        }
        check.due("new: state(0)", x.state(0), ShownOnce.BAD);
        check.due("new: byteAt(0, -1)", x.byteAt(0, -1), ShownOnce.BAD);
        check.due("new: place(0, 0)", x.place(0, 0), ShownOnce.BAD);
        check.due("new: made(0, 24, -1)", x.made(0, 24, -1), ShownOnce.BAD);
        check.due("new: end(0, -1)", x.end(0, -1), ShownOnce.BAD);
        check.due("new: thing()", x.thing(), ShownOnce.NOT);
        check.due("new: fitting(0)", x.fitting(0), ShownOnce.NOT);
        check.due("new: back()", x.back(), ShownOnce.NONE);
        for (int sheet = 0; sheet < 4; sheet++) {
            check.due("new: drop(" + sheet + ")", x.drop(sheet), ShownOnce.NULL);
        }
    }

    private static void type() {
        ShownOnce x = new ShownOnce();
        check.due("n 0", x.type(65, 0), ShownOnce.BAD);
        check.due("n 9", x.type(Check.word("ABCDEFGH"), 9), ShownOnce.BAD);
        check.due("n -1", x.type(65, -1), ShownOnce.BAD);
        check.due("byte 31", x.type(31, 1), ShownOnce.BAD);
        check.due("byte 127", x.type(127, 1), ShownOnce.BAD);
        check.due("byte 200", x.type(200, 1), ShownOnce.BAD);
        check.due("byte 31 ahead", x.type(31 << 8 | 65, 2), ShownOnce.BAD);
        check.due("byte 0 ahead", x.type(65, 2), ShownOnce.BAD);
        check.due("bytes above do not count", x.type(-256L | 126, 1), 1);
        check.due("a blank", x.type(32, 1), 2);
        check.due("eight", x.type(Check.word("ABCDEFGH"), 8), 10);
        check.due("thing", x.thing(), 0);
        check.due("the highest first", Check.spell(i -> x.byteAt(0, i)), "~ ABCDEFGH");
        for (int i = 1; i <= 7; i++) {
            x.type(Check.word("ABCDEFGH"), 8);
        }
        check.due("five more than 56", x.type(Check.word("ABCDE"), 5), ShownOnce.FULL);
        check.due("a bad byte goes ahead of full", x.type(Check.word("ABCD") << 8 | 1, 5), ShownOnce.BAD);
        check.due("sixty", x.type(Check.word("ABCD"), 4), 60);
        check.due("sixty and one", x.type(65, 1), ShownOnce.FULL);
    }

    private static void thing() {
        ShownOnce x = new ShownOnce();
        check.due("empty tape", x.thing(), ShownOnce.NOT);
        check.due("16 bytes", Check.thingOf(x, "0123456789abcdef"), 0);
        check.due("17 bytes", Check.thingOf(x, "0123456789abcdefg"), ShownOnce.NOT);
        check.due("the tape is empty behind a refusal", x.type(65, 1), 1);
        check.due("one byte", x.thing(), 1);
        check.due("the tape is empty", x.thing(), ShownOnce.NOT);
        for (int i = 2; i < 12; i++) {
            check.due("thing " + i, Check.thingOf(x, "t" + i), i);
        }
        check.due("the 13th", Check.thingOf(x, "t12"), ShownOnce.FULL);
        check.due("the tape is empty behind full", x.type(65, 1), 1);
        Check.typeAll(x, "0123456789abcdef");
        check.due("not goes ahead of full", x.thing(), ShownOnce.NOT);
        check.due("twelve", x.count(0), 12);
        check.due("the last one", Check.spell(i -> x.byteAt(11, i)), "t11");
    }

    private static void line() {
        ShownOnce x = new ShownOnce();
        check.due("nothing", x.line(0, 0, 0, 1), ShownOnce.NULL);
        check.due("sheet", x.line(4, 0, 0, 1), ShownOnce.BAD);
        check.due("sheet", x.line(-1, 0, 0, 1), ShownOnce.BAD);
        check.due("lane", x.line(0, 3, 0, 1), ShownOnce.BAD);
        check.due("lane", x.line(0, -1, 0, 1), ShownOnce.BAD);
        check.due("n 0", x.line(0, 0, 0, 0), ShownOnce.BAD);
        check.due("n 17", x.line(0, 0, 0, 17), ShownOnce.BAD);
        x.sheet(2, 0, 20);
        for (int i = 0; i < 20; i++) {
            x.item(2, 0, i, 'a' + i);
        }
        check.due("another lane", x.line(2, 1, -1, 1), ShownOnce.CAST);
        check.due("below", x.line(2, 0, -1, 1), ShownOnce.INDEX);
        check.due("behind", x.line(2, 0, 20, 1), ShownOnce.INDEX);
        check.due("over", x.line(2, 0, 5, 16), ShownOnce.INDEX);
        check.due("far", x.line(2, 0, Integer.MAX_VALUE, 16), ShownOnce.INDEX);
        check.due("far below", x.line(2, 0, Integer.MIN_VALUE, 16), ShownOnce.INDEX);
        check.due("the last 16", x.line(2, 0, 4, 16), 0);
        check.due("they are", Check.spell(i -> x.byteAt(0, i)), "efghijklmnopqrst");
        x.item(2, 0, 3, 127);
        check.due("127", x.line(2, 0, 0, 4), ShownOnce.NOT);
        check.due("ahead of it", x.line(2, 0, 0, 3), 1);
        x.item(2, 0, 3, -1);
        check.due("-1", x.line(2, 0, 3, 1), ShownOnce.NOT);
        check.due("index goes ahead of not", x.line(2, 0, 3, 18 - 1), ShownOnce.BAD);
        check.due("index goes ahead of not", x.line(2, 0, 5, 16), ShownOnce.INDEX);
        x.item(2, 0, 3, 256 + 65);
        check.due("lowest bits of a byte", x.line(2, 0, 3, 1), 2);
        x.sheet(3, 2, 1);
        x.item(3, 2, 0, 256 + 65);
        check.due("an int is taken whole", x.line(3, 2, 0, 1), ShownOnce.NOT);
        x.sheet(1, 1, 1);
        x.item(1, 1, 0, 65536 + 65);
        check.due("lowest bits of a short", x.line(1, 1, 0, 1), 3);
        for (int i = 4; i < 12; i++) {
            check.due("line " + i, x.line(2, 0, i, 1), i);
        }
        check.due("full", x.line(2, 0, 0, 1), ShownOnce.FULL);
        x.item(2, 0, 3, 5);
        check.due("not goes ahead of full", x.line(2, 0, 3, 1), ShownOnce.NOT);
    }

    private static void byteAt() {
        ShownOnce x = new ShownOnce();
        Check.thingOf(x, "a~ ");
        check.due("size", x.byteAt(0, -1), 3);
        check.due("0", x.byteAt(0, 0), 'a');
        check.due("1", x.byteAt(0, 1), '~');
        check.due("2", x.byteAt(0, 2), ' ');
        check.due("3", x.byteAt(0, 3), ShownOnce.BAD);
        check.due("-2", x.byteAt(0, -2), ShownOnce.BAD);
        check.due("least", x.byteAt(0, Integer.MIN_VALUE), ShownOnce.BAD);
        check.due("thing 1", x.byteAt(1, 0), ShownOnce.BAD);
        check.due("thing -1", x.byteAt(-1, 0), ShownOnce.BAD);
    }

    private static void places(String line, int base, String want) {
        ShownOnce x = new ShownOnce();
        Check.thingOf(x, line);
        StringBuilder got = new StringBuilder();
        for (int i = 0; i < (base < 16 ? 8 : 6); i++) {
            int at = x.place(0, base + i);
            got.append(i > 0 ? " " : "").append(at == ShownOnce.NONE ? "-" : String.valueOf(at));
        }
        check.due("places from " + base + " of " + line, got.toString(), want);
    }

    private static void place() {
        String line = "AbC12-x 7";
        places(line, 0, "0 1 2 3 4 5 6 7");
        places(line, 8, "9 8 7 6 5 4 3 2");
        places(line, 16, "3 8 8 5 9 9");
        places(line, 22, "0 6 6 3 7 7");
        places(line, 28, "0 2 2 1 3 3");
        places(line, 34, "5 7 7 6 8 8");
        places("abc", 0, "0 1 2 3 - - - -");
        places("abc", 8, "3 2 1 0 - - - -");
        places("abc", 16, "- - - - - -");
        places("abc", 22, "0 - 0 3 - 3");
        places("ABcDE1", 28, "0 3 3 2 5 5");
        places("--- -", 34, "0 1 4 1 2 5");
        places("-", 34, "0 - 0 1 - 1");
        places("1a2b3", 16, "0 2 4 1 3 5");
        places("@[`{/:", 22, "- - - - - -");
        places("@[`{/:", 34, "0 1 5 1 2 6");
        places("AZaz09", 22, "0 - 0 4 - 4");
        ShownOnce x = new ShownOnce();
        Check.thingOf(x, "abc");
        check.due("place -1", x.place(0, -1), ShownOnce.BAD);
        check.due("place 40", x.place(0, 40), ShownOnce.BAD);
        check.due("place 39", x.place(0, 39), ShownOnce.NONE);
        check.due("thing 1", x.place(1, 0), ShownOnce.BAD);
    }

    private static int cut(int from, int to, int turn) {
        return 120 * from + 3 * to + turn;
    }

    private static void made() {
        ShownOnce x = new ShownOnce();
        Check.thingOf(x, "Ab[z9Z{a");
        check.due("all", Check.spell(i -> x.made(0, cut(0, 8, 0), i)), "Ab[z9Z{a");
        check.due("capitals", Check.spell(i -> x.made(0, cut(0, 8, 1), i)), "AB[Z9Z{A");
        check.due("small", Check.spell(i -> x.made(0, cut(0, 8, 2), i)), "ab[z9z{a");
        check.due("between", Check.spell(i -> x.made(0, cut(1, 9, 0), i)), "b[z9Z{");
        check.due("the last letters", Check.spell(i -> x.made(0, cut(24, 27, 1), i)), "A");
        check.due("empty", Check.spell(i -> x.made(0, cut(3, 3, 0), i)), null);
        check.due("the wrong way round", Check.spell(i -> x.made(0, cut(4, 3, 0), i)), null);
        check.due("no such place", Check.spell(i -> x.made(0, cut(0, 17, 0), i)), null);
        check.due("no place from", Check.spell(i -> x.made(0, cut(17, 8, 0), i)), null);
        check.due("nothing goes ahead of no such byte", x.made(0, 0, 99), ShownOnce.NONE);
        check.due("no such byte", x.made(0, cut(0, 8, 0), 8), ShownOnce.BAD);
        check.due("no such byte", x.made(0, cut(0, 8, 0), -2), ShownOnce.BAD);
        check.due("cut -1", x.made(0, -1, -1), ShownOnce.BAD);
        check.due("cut 4800", x.made(0, 4800, -1), ShownOnce.BAD);
        check.due("cut 4799", x.made(0, 4799, -1), ShownOnce.NONE);
        check.due("thing 1", x.made(1, 24, -1), ShownOnce.BAD);
        check.due("thing -1", x.made(-1, 24, -1), ShownOnce.BAD);
    }
}
