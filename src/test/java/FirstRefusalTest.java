/** "Refusals are answers, of several the first that a call names": each two that can meet in a call. */
public final class FirstRefusalTest {
    private static final Check check = new Check();
    private static final int ALL = 24, NOTHING = 0;
    private static final int BAD = ShownOnce.BAD, NOT = ShownOnce.NOT, FULL = ShownOnce.FULL, NONE = ShownOnce.NONE;
    private static final int NULL = ShownOnce.NULL, CAST = ShownOnce.CAST, INDEX = ShownOnce.INDEX, SIZE = ShownOnce.SIZE;

    public static void main(String[] args) {
        type();
        thing();
        line();
        made();
        show();
        asking();
        doing();
        end();
        keep();
        text();
        run();
        sheet();
        item();
        put();
        check.close("FirstRefusalTest");
    }

    private static ShownOnce twelve() {
        ShownOnce x = new ShownOnce();
        for (int i = 0; i < 12; i++) {
            Check.thingOf(x, "a");
        }
        return x;
    }

    /** One thing is shown, so that nothing fits. */
    private static ShownOnce unfit() {
        ShownOnce x = Check.with("a", "b");
        Check.showOf(x, 0, "1234567890");
        return x;
    }

    private static void type() {
        ShownOnce x = new ShownOnce();
        Check.typeAll(x, "a".repeat(60));
        check.due("type: BAD n, FULL", x.type(65, 0), BAD);
        check.due("type: BAD n, FULL", x.type(65, 9), BAD);
        check.due("type: BAD byte, FULL", x.type(31, 1), BAD);
        check.due("type: BAD byte, FULL", x.type(127, 1), BAD);
        check.due("type: FULL", x.type(65, 1), FULL);
    }

    private static void thing() {
        ShownOnce x = twelve();
        check.due("thing: NOT of none, FULL", x.thing(), NOT);
        check.due("thing: NOT of 17, FULL", Check.thingOf(x, "a".repeat(17)), NOT);
        check.due("thing: FULL", Check.thingOf(x, "a".repeat(16)), FULL);
    }

    /** "BAD; NULL; CAST; INDEX; NOT; FULL" */
    private static void line() {
        ShownOnce x = twelve();
        check.due("line: BAD sheet, the rest", x.line(4, 0, 0, 1), BAD);
        check.due("line: BAD lane, NULL", x.line(0, 3, 0, 1), BAD);
        check.due("line: BAD n, NULL", x.line(0, 0, 0, 0), BAD);
        check.due("line: BAD n, NULL", x.line(0, 0, 0, 17), BAD);
        check.due("line: NULL, INDEX, FULL", x.line(0, 0, -1, 1), NULL);
        check.due("line: NULL, FULL", x.line(0, 0, 0, 1), NULL);
        x.sheet(0, 1, 3);
        x.item(0, 1, 0, 65);
        check.due("line: BAD lane, CAST", x.line(0, 3, 0, 1), BAD);
        check.due("line: BAD n, CAST", x.line(0, 0, 0, 17), BAD);
        check.due("line: BAD n, INDEX", x.line(0, 1, 0, 17), BAD);
        check.due("line: BAD n, INDEX", x.line(0, 1, 3, 0), BAD);
        check.due("line: CAST, INDEX", x.line(0, 0, -1, 1), CAST);
        check.due("line: CAST, NOT, FULL", x.line(0, 2, 1, 1), CAST);
        check.due("line: CAST, FULL", x.line(0, 2, 0, 1), CAST);
        check.due("line: INDEX, NOT, FULL", x.line(0, 1, 0, 4), INDEX);
        check.due("line: INDEX, NOT, FULL", x.line(0, 1, -1, 3), INDEX);
        check.due("line: INDEX, FULL", x.line(0, 1, 3, 1), INDEX);
        check.due("line: NOT, FULL", x.line(0, 1, 0, 2), NOT);
        check.due("line: NOT, FULL", x.line(0, 1, 2, 1), NOT);
        check.due("line: FULL", x.line(0, 1, 0, 1), FULL);
    }

    /** "BAD; NONE: nothing; BAD: there is no such byte" */
    private static void made() {
        ShownOnce x = Check.with("a");
        check.due("made: BAD thing, NONE", x.made(1, NOTHING, 0), BAD);
        check.due("made: BAD cut, NONE", x.made(0, 4800, 0), BAD);
        check.due("made: NONE, BAD byte", x.made(0, NOTHING, 1), NONE);
        check.due("made: BAD byte", x.made(0, ALL, 1), BAD);
    }

    /** "BAD (THE TAPE stays); NOT: 0, more than 12 bytes; FULL: 4 others are" */
    private static void show() {
        ShownOnce x = Check.with("1", "2", "3", "4", "5");
        check.due("show: BAD, NOT of none", x.show(5), BAD);
        for (int i = 0; i < 4; i++) {
            Check.showOf(x, i, "x");
        }
        check.due("show: BAD, FULL", Check.showOf(x, 5, "x"), BAD);
        x.show(0);
        check.due("show: NOT of none, FULL", x.show(4), NOT);
        check.due("show: NOT of 13, FULL", Check.showOf(x, 4, "a".repeat(13)), NOT);
        check.due("show: FULL", Check.showOf(x, 4, "a".repeat(12)), FULL);
        check.due("show: BAD, NOT of 13", Check.showOf(x, -1, "a".repeat(13)), BAD);
        check.due("show: then NOT of 13", x.show(4), NOT);
        check.due("forget: BAD, NOT", x.forget(5), BAD);
        check.due("forget: NOT", x.forget(4), NOT);
    }

    /** "BAD; NOT: nothing is SHOWN; NONE: nothing is FITTING; BAD" */
    private static void asking() {
        ShownOnce x = Check.with("a");
        check.due("fitting: BAD, NOT", x.fitting(4), BAD);
        check.due("shortest: BAD, NOT", x.shortest(5), BAD);
        check.due("shortest: NOT, BAD piece", x.shortest(4), NOT);
        check.due("paper: BAD, NOT", x.paper(1, 0), BAD);
        check.due("paper: NOT, BAD byte", x.paper(0, 99), NOT);
        check.due("differs: BAD, NOT", x.differs(1), BAD);
        check.due("odd: BAD, NOT", x.odd(1), BAD);
        ShownOnce y = unfit();
        check.due("fitting: BAD", y.fitting(-1), BAD);
        check.due("shortest: BAD, NONE", y.shortest(5), BAD);
        check.due("shortest: NONE, BAD piece", y.shortest(4), NONE);
        check.due("paper: BAD, NONE", y.paper(2, 0), BAD);
        check.due("paper: NONE, BAD byte", y.paper(1, 99), NONE);
        check.due("differs: BAD, NONE", y.differs(2), BAD);
        check.due("odd: BAD, NONE", y.odd(2), BAD);
        ShownOnce z = Check.with("a1", "bb22", "c");
        Check.showOf(z, 0, "1");
        Check.showOf(z, 1, "22");
        check.due("paper: NONE of nothing made, BAD byte", z.paper(2, 99), NONE);
        check.due("shortest: BAD piece", z.shortest(4), BAD);
    }

    private static void doing() {
        check.due("doing: BAD, NOT", Check.with("a").doing(13), BAD);
        check.due("doing: BAD, NOT", Check.with("a").doing(0), BAD);
        check.due("doing: BAD, NONE", unfit().doing(13), BAD);
        check.due("doing: BAD, NONE", unfit().doing(0), BAD);
    }

    /** "BAD; NONE: it is neither; BAD: there is no such byte" */
    private static void end() {
        ShownOnce x = unfit();
        check.due("end: BAD thing, NONE", x.end(2, 0), BAD);
        check.due("end: NONE, BAD byte", x.end(1, 99), NONE);
        check.due("end: BAD byte", x.end(0, 10), BAD);
    }

    /** "NOT: nothing is SHOWN; NONE: nothing is FITTING; FULL: 4" */
    private static void keep() {
        ShownOnce x = Check.with("a", "b");
        for (int i = 0; i < 4; i++) {
            Check.textOf(x, "f0,e0");
        }
        check.due("keep: NOT, FULL", x.keep(), NOT);
        Check.showOf(x, 0, "1234567890");
        check.due("keep: NONE, FULL", x.keep(), NONE);
        Check.showOf(x, 0, "a");
        check.due("keep: FULL", x.keep(), FULL);
    }

    /** "A FAULT; FULL" */
    private static void text() {
        ShownOnce x = new ShownOnce();
        for (int i = 0; i < 4; i++) {
            Check.textOf(x, "f0,e0");
        }
        check.due("text: a fault at the first byte, FULL", Check.textOf(x, "x"), -20);
        check.due("text: a fault at the end, FULL", Check.textOf(x, "f0,e"), -24);
        check.due("text: a fault of an empty tape, FULL", x.text(), -20);
        check.due("text: of two faults the first", Check.textOf(x, "f8,e8"), -21);
        check.due("text: a cut as second of three ahead of a fault", Check.textOf(x, "f0,e0+f0,e0+x"), -31);
        check.due("text: FULL", Check.textOf(x, "f0,e0"), FULL);
    }

    /** "BAD; NONE: nothing; BAD: there is no such byte" */
    private static void run() {
        ShownOnce x = Check.with("a");
        Check.textOf(x, "bd1,ad1");
        Check.textOf(x, "f0,e0");
        check.due("run: BAD program, NONE", x.run(2, 0, 0), BAD);
        check.due("run: BAD thing, NONE", x.run(0, 1, 0), BAD);
        check.due("run: NONE, BAD byte", x.run(0, 0, 99), NONE);
        check.due("run: BAD byte", x.run(1, 0, 1), BAD);
    }

    /** "BAD: also n above 20; SIZE: n below 0"; drop: "BAD; NULL" */
    private static void sheet() {
        ShownOnce x = new ShownOnce();
        check.due("sheet: BAD sheet, SIZE", x.sheet(4, 0, -1), BAD);
        check.due("sheet: BAD sheet, SIZE", x.sheet(-1, 0, -1), BAD);
        check.due("sheet: BAD lane, SIZE", x.sheet(0, 3, -1), BAD);
        check.due("sheet: BAD lane, SIZE", x.sheet(0, -1, -1), BAD);
        check.due("sheet: SIZE", x.sheet(0, 0, -1), SIZE);
        check.due("drop: BAD, NULL", x.drop(4), BAD);
        check.due("drop: BAD, NULL", x.drop(-1), BAD);
        check.due("drop: NULL", x.drop(0), NULL);
    }

    /** "BAD; NULL; CAST; INDEX" */
    private static void item() {
        ShownOnce x = new ShownOnce();
        check.due("item: BAD sheet, NULL", x.item(4, 0, 0, 0), BAD);
        check.due("item: BAD lane, NULL", x.item(0, 3, 0, 0), BAD);
        check.due("item: NULL, INDEX", x.item(0, 0, -1, 0), NULL);
        x.sheet(0, 1, 2);
        check.due("item: BAD lane, CAST", x.item(0, 3, 0, 0), BAD);
        check.due("item: BAD lane, INDEX", x.item(0, -1, 2, 0), BAD);
        check.due("item: CAST, INDEX", x.item(0, 0, 2, 0), CAST);
        check.due("item: CAST, INDEX", x.item(0, 2, -1, 0), CAST);
        check.due("item: INDEX", x.item(0, 1, 2, 0), INDEX);
    }

    /** "BAD; NULL; CAST; NONE: nothing; INDEX" */
    private static void put() {
        ShownOnce x = Check.with("a");
        check.due("put: BAD thing, NULL", x.put(1, ALL, 0, 0, 0), BAD);
        check.due("put: BAD cut, NULL", x.put(0, 4800, 0, 0, 0), BAD);
        check.due("put: BAD sheet", x.put(0, ALL, 4, 0, 0), BAD);
        check.due("put: BAD lane, NULL", x.put(0, ALL, 0, 3, 0), BAD);
        check.due("put: NULL, NONE", x.put(0, NOTHING, 0, 0, 0), NULL);
        check.due("put: NULL, INDEX", x.put(0, ALL, 0, 0, -1), NULL);
        x.sheet(0, 1, 2);
        check.due("put: BAD thing, CAST", x.put(1, ALL, 0, 0, 0), BAD);
        check.due("put: BAD cut, CAST", x.put(0, -1, 0, 0, 0), BAD);
        check.due("put: BAD thing, NONE, INDEX", x.put(-1, NOTHING, 0, 1, 2), BAD);
        check.due("put: BAD cut, INDEX", x.put(0, 4800, 0, 1, 2), BAD);
        check.due("put: CAST, NONE", x.put(0, NOTHING, 0, 0, 0), CAST);
        check.due("put: CAST, INDEX", x.put(0, ALL, 0, 2, 2), CAST);
        check.due("put: NONE, INDEX", x.put(0, NOTHING, 0, 1, 2), NONE);
        check.due("put: NONE, INDEX", x.put(0, NOTHING, 0, 1, -1), NONE);
        check.due("put: INDEX", x.put(0, ALL, 0, 1, 2), INDEX);
    }
}
