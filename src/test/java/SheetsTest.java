/** Promises 27 to 30: sheet, drop, item, put. */
public final class SheetsTest {
    private static final Check check = new Check();
    private static final int ALL = 24;

    public static void main(String[] args) {
        sheet();
        drop();
        item();
        put();
        check.close("SheetsTest");
    }

    private static void sheet() {
        ShownOnce x = new ShownOnce();
        check.due("0 items", x.sheet(0, 0, 0), 0);
        check.due("20 items", x.sheet(3, 2, 20), 20);
        check.due("21 items", x.sheet(3, 2, 21), ShownOnce.BAD);
        check.due("-1 items", x.sheet(3, 2, -1), ShownOnce.SIZE);
        check.due("least", x.sheet(3, 2, Integer.MIN_VALUE), ShownOnce.SIZE);
        check.due("lane 3", x.sheet(0, 3, -1), ShownOnce.BAD);
        check.due("lane -1", x.sheet(0, -1, 1), ShownOnce.BAD);
        check.due("sheet 4", x.sheet(4, 0, -1), ShownOnce.BAD);
        check.due("sheet -1", x.sheet(-1, 0, 1), ShownOnce.BAD);
        check.due("what is refused changes nothing", x.drop(3), 20);
        x.sheet(1, 2, 3);
        x.item(1, 2, 0, 65);
        check.due("again", x.sheet(1, 2, 3), 3);
        check.due("a new row", x.line(1, 2, 0, 1), ShownOnce.NOT);
        check.due("another lane", x.sheet(1, 0, 2), 2);
        check.due("the old lane", x.item(1, 2, 0, 65), ShownOnce.CAST);
    }

    private static void drop() {
        ShownOnce x = new ShownOnce();
        check.due("sheet 4", x.drop(4), ShownOnce.BAD);
        check.due("sheet -1", x.drop(-1), ShownOnce.BAD);
        check.due("nothing", x.drop(0), ShownOnce.NULL);
        x.sheet(0, 1, 7);
        check.due("seven", x.drop(0), 7);
        check.due("nothing again", x.drop(0), ShownOnce.NULL);
        check.due("no items", x.item(0, 1, 0, 1), ShownOnce.NULL);
        x.sheet(0, 1, 0);
        check.due("an empty row is something", x.drop(0), 0);
    }

    private static void item() {
        ShownOnce x = new ShownOnce();
        check.due("nothing", x.item(1, 0, 99, 1), ShownOnce.NULL);
        x.sheet(1, 0, 2);
        check.due("sheet", x.item(4, 0, 0, 1), ShownOnce.BAD);
        check.due("sheet", x.item(-1, 0, 0, 1), ShownOnce.BAD);
        check.due("lane", x.item(1, 3, 0, 1), ShownOnce.BAD);
        check.due("lane", x.item(1, -1, 0, 1), ShownOnce.BAD);
        check.due("cast goes ahead of index", x.item(1, 1, 5, 1), ShownOnce.CAST);
        check.due("-1", x.item(1, 0, -1, 1), ShownOnce.INDEX);
        check.due("2", x.item(1, 0, 2, 1), ShownOnce.INDEX);
        check.due("1", x.item(1, 0, 1, 65), 1);
        check.due("0", x.item(1, 0, 0, 0x7fffff42), 1);
        check.due("thing", x.line(1, 0, 0, 2), 0);
        check.due("lowest bits", Check.spell(i -> x.byteAt(0, i)), "BA");
        x.sheet(2, 1, 1);
        x.item(2, 1, 0, 0x10141);
        check.due("a short keeps more than a byte", x.line(2, 1, 0, 1), ShownOnce.NOT);
        x.sheet(2, 2, 1);
        x.item(2, 2, 0, 0x10041);
        check.due("an int keeps more than a short", x.line(2, 2, 0, 1), ShownOnce.NOT);
        x.item(2, 2, 0, 0x41);
        check.due("and is 65", x.line(2, 2, 0, 1), 1);
    }

    private static void put() {
        ShownOnce x = new ShownOnce();
        check.due("no thing", x.put(0, ALL, 0, 0, 0), ShownOnce.BAD);
        Check.thingOf(x, "abC");
        check.due("nothing", x.put(0, ALL, 0, 0, 0), ShownOnce.NULL);
        check.due("null goes ahead of none", x.put(0, 0, 0, 0, 0), ShownOnce.NULL);
        x.sheet(0, 1, 5);
        check.due("sheet 4", x.put(0, ALL, 4, 1, 0), ShownOnce.BAD);
        check.due("lane 3", x.put(0, ALL, 0, 3, 0), ShownOnce.BAD);
        check.due("cut 4800", x.put(0, 4800, 0, 1, 0), ShownOnce.BAD);
        check.due("cut -1", x.put(0, -1, 0, 1, 0), ShownOnce.BAD);
        check.due("cast goes ahead of none", x.put(0, 0, 0, 2, 0), ShownOnce.CAST);
        check.due("none goes ahead of index", x.put(0, 0, 0, 1, 9), ShownOnce.NONE);
        check.due("over", x.put(0, ALL, 0, 1, 3), ShownOnce.INDEX);
        check.due("what is refused changes nothing", x.line(0, 1, 3, 1), ShownOnce.NOT);
        check.due("below", x.put(0, ALL, 0, 1, -1), ShownOnce.INDEX);
        check.due("far", x.put(0, ALL, 0, 1, Integer.MAX_VALUE), ShownOnce.INDEX);
        check.due("turned", x.put(0, ALL + 1, 0, 1, 2), 3);
        check.due("as it is", x.put(0, ALL, 0, 1, 0), 3);
        check.due("line", x.line(0, 1, 0, 5), 1);
        check.due("both", Check.spell(i -> x.byteAt(1, i)), "abCBC");
        for (int lane = 0; lane < 3; lane += 2) {
            x.sheet(3, lane, 3);
            check.due("lane " + lane, x.put(0, ALL + 2, 3, lane, 0), 3);
            check.due("its line", x.line(3, lane, 0, 3), 2 + lane / 2);
            int thing = 2 + lane / 2;
            check.due("small", Check.spell(i -> x.byteAt(thing, i)), "abc");
        }
    }
}
