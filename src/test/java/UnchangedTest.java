import java.util.function.Supplier;
import java.util.function.ToLongFunction;

/**
 * "What is refused changes nothing": objects with the same past are looked at from all sides, with and without a
 * refused call (or a call that only asks) in between. Only the tape is empty behind thing, show and text.
 */
public final class UnchangedTest {
    private static final Check check = new Check();
    private static final int ALL = 24, NOTHING = 0;
    private static final int BAD = ShownOnce.BAD, NOT = ShownOnce.NOT, FULL = ShownOnce.FULL, NONE = ShownOnce.NONE;
    private static final int NULL = ShownOnce.NULL, CAST = ShownOnce.CAST, INDEX = ShownOnce.INDEX, SIZE = ShownOnce.SIZE;

    private final String name;
    private final Supplier<ShownOnce> past;
    private final String tape;
    private final String looks;
    private final String looksWithoutTape;

    private UnchangedTest(String name, Supplier<ShownOnce> past, String tape) {
        this.name = name;
        this.past = past;
        this.tape = tape;
        this.looks = looksOf(this::withTape);
        this.looksWithoutTape = looksOf(past);
    }

    public static void main(String[] args) {
        looksTellAll();
        onANewObject();
        inTheMiddle();
        whenAllIsFull();
        whenTheTapeIsFull();
        whenTheTapeIsTooLong();
        whenNothingFits();
        whenNothingIsShown();
        check.close("UnchangedTest");
    }

    private ShownOnce withTape() {
        ShownOnce x = past.get();
        Check.typeAll(x, tape);
        return x;
    }

    private void refused(String call, ToLongFunction<ShownOnce> of, long answer) {
        leaves(looks, call, of, answer);
    }

    private void refusedWithTape(String call, ToLongFunction<ShownOnce> of, long answer) {
        leaves(looksWithoutTape, call, of, answer);
    }

    private void leaves(String due, String call, ToLongFunction<ShownOnce> of, long answer) {
        check.due(name + ": " + call, of.applyAsLong(withTape()), answer);
        String then = looksOf(() -> {
            ShownOnce x = withTape();
            of.applyAsLong(x);
            return x;
        });
        check.due(name + ", behind " + call, then, due);
    }

    private void asked(String call, ToLongFunction<ShownOnce> of) {
        refused(call, of, of.applyAsLong(withTape()));
    }

    // ---- looking

    private static String looksOf(Supplier<ShownOnce> object) {
        return things(object.get()) + answers(object.get()) + programs(object.get()) + doings(object.get())
            + tapeAsThing(object.get()) + tapeAsEnd(object.get()) + tapeAsText(object.get()) + sheets(object);
    }

    private static String things(ShownOnce x) {
        StringBuilder told = new StringBuilder("counts");
        for (int what = 0; what <= 4; what++) {
            told.append(' ').append(x.count(what));
        }
        for (int i = 0; i < x.count(0); i++) {
            int thing = i;
            told.append("; ").append(Check.spell(k -> x.byteAt(thing, k))).append(' ').append(x.state(i));
            told.append(' ').append(Check.spell(k -> x.end(thing, k)));
        }
        return told.append('\n').toString();
    }

    private static String answers(ShownOnce x) {
        StringBuilder told = new StringBuilder("answers");
        for (int n = 0; n <= 3; n++) {
            told.append(' ').append(x.fitting(n));
        }
        for (int what = 0; what <= 4; what++) {
            told.append(' ').append(x.shortest(what));
        }
        for (int i = 0; i < x.count(0); i++) {
            told.append("; ").append(x.differs(i)).append(' ').append(x.odd(i)).append(' ').append(x.paper(i, -1));
        }
        return told.append("; ").append(x.settle()).append(' ').append(x.slips()).append(' ').append(x.otherwise())
            .append('\n').toString();
    }

    private static String programs(ShownOnce x) {
        StringBuilder told = new StringBuilder("programs");
        for (int program = 0; program < 4; program++) {
            for (int what = 0; what <= 4; what++) {
                told.append(' ').append(x.kept(program, what));
            }
            told.append(" of thing 0 ").append(x.run(program, 0, -1)).append(';');
        }
        return told.append('\n').toString();
    }

    private static String doings(ShownOnce x) {
        StringBuilder told = new StringBuilder("doings");
        int answer = 0;
        for (int i = 0; i < 9 && answer >= 0; i++) {
            answer = x.back();
            told.append(' ').append(answer);
            for (int thing = 0; thing < x.count(0); thing++) {
                told.append(thing == 0 ? " " : "").append(x.state(thing));
            }
        }
        return told.append('\n').toString();
    }

    private static String tapeAsThing(ShownOnce x) {
        int thing = x.thing();
        return "tape " + thing + " " + Check.spell(i -> x.byteAt(thing, i)) + "\n";
    }

    private static String tapeAsEnd(ShownOnce x) {
        int answer = x.show(0);
        return "shown " + answer + " " + Check.spell(i -> x.end(0, i)) + "\n";
    }

    private static String tapeAsText(ShownOnce x) {
        int more = x.type('~', 1);
        return "tape and one more " + more + " read " + x.text() + "\n";
    }

    private static String sheets(Supplier<ShownOnce> object) {
        StringBuilder told = new StringBuilder("sheets");
        for (int sheet = 0; sheet < 4; sheet++) {
            told.append("; ").append(object.get().drop(sheet));
            for (int lane = 0; lane < 3; lane++) {
                told.append(' ').append(object.get().item(sheet, lane, 0, 1));
                for (int i = 0; i < 20; i++) {
                    told.append(itemOf(object.get(), sheet, lane, i));
                }
            }
        }
        return told.append('\n').toString();
    }

    private static String itemOf(ShownOnce x, int sheet, int lane, int i) {
        int thing = x.line(sheet, lane, i, 1);
        return thing >= 0 ? String.valueOf((char) x.byteAt(thing, 0)) : thing == CAST || thing == NULL ? "" : "<" + thing + ">";
    }

    // ---- pasts

    private static void fill(ShownOnce x, int sheet, int lane, String items) {
        x.sheet(sheet, lane, items.length());
        for (int i = 0; i < items.length(); i++) {
            x.item(sheet, lane, i, items.charAt(i));
        }
    }

    private static ShownOnce middle() {
        ShownOnce x = Check.with("7", "8", "42", "a", "9", "-");
        Check.showOf(x, 0, "7");
        Check.showOf(x, 1, "8");
        x.doing(1);
        x.doing(2);
        x.keep();
        Check.textOf(x, "f0,e0+\"-\"+f0,e0u");
        fill(x, 0, 0, "abcd");
        fill(x, 1, 1, "abcdefghijklmnop" + (char) 127 + "rst");
        x.sheet(2, 2, 0);
        return x;
    }

    private static ShownOnce full() {
        ShownOnce x = new ShownOnce();
        for (int i = 0; i < 12; i++) {
            Check.thingOf(x, i + " x");
        }
        for (int i = 2; i < 6; i++) {
            Check.showOf(x, i, String.valueOf(i));
        }
        x.doing(2);
        x.doing(3);
        for (int i = 0; i < 4; i++) {
            Check.textOf(x, "f0,e" + i);
        }
        fill(x, 3, 2, "abc" + (char) 31);
        return x;
    }

    private static ShownOnce unfit() {
        ShownOnce x = middle();
        Check.showOf(x, 4, "x");
        return x;
    }

    private static ShownOnce forgotten() {
        ShownOnce x = middle();
        x.forget(0);
        x.forget(1);
        return x;
    }

    // ---- each refusal of each call

    /** The looks are of use only if each change that a call can make is seen in them. */
    private static void looksTellAll() {
        String before = looksOf(UnchangedTest::middle);
        changed(before, "type", x -> x.type('x', 1));
        changed(before, "thing", x -> Check.thingOf(x, "x"));
        changed(before, "line", x -> x.line(0, 0, 0, 1));
        changed(before, "show", x -> Check.showOf(x, 5, "-"));
        changed(before, "show again", x -> Check.showOf(x, 0, "77"));
        changed(before, "forget", x -> x.forget(0));
        changed(before, "doing", x -> x.doing(1));
        changed(before, "back", ShownOnce::back);
        changed(before, "keep", ShownOnce::keep);
        changed(before, "text", x -> Check.textOf(x, "f0,e0"));
        changed(before, "sheet", x -> x.sheet(3, 0, 0));
        changed(before, "sheet again", x -> x.sheet(0, 0, 4));
        changed(before, "drop", x -> x.drop(2));
        changed(before, "item", x -> x.item(1, 1, 19, 'q'));
        changed(before, "put", x -> x.put(2, ALL, 1, 1, 18));
    }

    private static void changed(String before, String call, ToLongFunction<ShownOnce> of) {
        String then = looksOf(() -> {
            ShownOnce x = middle();
            of.applyAsLong(x);
            return x;
        });
        check.due("seen: " + call, then.equals(before) ? 0 : 1, 1);
    }

    private static void onANewObject() {
        UnchangedTest t = new UnchangedTest("new", ShownOnce::new, "");
        t.refused("type n 0", x -> x.type(65, 0), BAD);
        t.refused("type a byte", x -> x.type(31, 1), BAD);
        t.refused("thing", ShownOnce::thing, NOT);
        t.refused("line", x -> x.line(0, 0, 0, 1), NULL);
        t.refused("show", x -> x.show(0), BAD);
        t.refused("forget", x -> x.forget(0), BAD);
        t.refused("doing", x -> x.doing(1), NOT);
        t.refused("back", ShownOnce::back, NONE);
        t.refused("keep", ShownOnce::keep, NOT);
        t.refused("text", ShownOnce::text, -20);
        t.refused("sheet", x -> x.sheet(0, 0, -1), SIZE);
        t.refused("drop", x -> x.drop(0), NULL);
        t.refused("item", x -> x.item(0, 0, 0, 65), NULL);
        t.refused("put", x -> x.put(0, ALL, 0, 0, 0), BAD);
        t.refused("settle", ShownOnce::settle, NOT);
        t.refused("slips", ShownOnce::slips, NOT);
        t.refused("otherwise", ShownOnce::otherwise, NOT);
    }

    private static void inTheMiddle() {
        UnchangedTest t = new UnchangedTest("middle", UnchangedTest::middle, "xy");
        t.refused("type n 9", x -> x.type(Check.word("ABCDEFGH"), 9), BAD);
        t.refused("type a byte behind good ones", x -> x.type(Check.word("ABC") << 8 | 127, 4), BAD);
        t.refused("type a byte ahead of good ones", x -> x.type(Check.word("ABC"), 4), BAD);
        t.refused("show thing 6", x -> x.show(6), BAD);
        t.refused("show thing -1", x -> x.show(-1), BAD);
        t.refused("forget thing 6", x -> x.forget(6), BAD);
        t.refused("forget an untouched thing", x -> x.forget(5), NOT);
        t.refused("forget a done thing", x -> x.forget(2), NOT);
        t.refused("forget a thing aside", x -> x.forget(3), NOT);
        t.refused("doing 0", x -> x.doing(0), BAD);
        t.refused("doing 13", x -> x.doing(13), BAD);
        t.refusedWithTape("text", ShownOnce::text, -20);
        refusedSheets(t);
        askedAll(t);
    }

    private static void refusedSheets(UnchangedTest t) {
        t.refused("line sheet 4", x -> x.line(4, 0, 0, 1), BAD);
        t.refused("line lane 3", x -> x.line(0, 3, 0, 1), BAD);
        t.refused("line of 0", x -> x.line(0, 0, 0, 0), BAD);
        t.refused("line of 17", x -> x.line(1, 1, 0, 17), BAD);
        t.refused("line of nothing", x -> x.line(3, 0, 0, 1), NULL);
        t.refused("line of another lane", x -> x.line(0, 1, 0, 1), CAST);
        t.refused("line behind the items", x -> x.line(0, 0, 1, 4), INDEX);
        t.refused("line ahead of the items", x -> x.line(0, 0, -1, 2), INDEX);
        t.refused("line with 127", x -> x.line(1, 1, 15, 3), NOT);
        t.refused("sheet 4", x -> x.sheet(4, 0, 1), BAD);
        t.refused("sheet lane 3", x -> x.sheet(0, 3, 1), BAD);
        t.refused("sheet of 21", x -> x.sheet(0, 0, 21), BAD);
        t.refused("sheet of -1", x -> x.sheet(0, 0, -1), SIZE);
        t.refused("drop 4", x -> x.drop(4), BAD);
        t.refused("drop nothing", x -> x.drop(3), NULL);
        t.refused("item of sheet 4", x -> x.item(4, 0, 0, 65), BAD);
        t.refused("item of nothing", x -> x.item(3, 0, 0, 65), NULL);
        t.refused("item of another lane", x -> x.item(0, 2, 0, 65), CAST);
        t.refused("item behind", x -> x.item(0, 0, 4, 65), INDEX);
        t.refused("item ahead", x -> x.item(0, 0, -1, 65), INDEX);
        t.refused("put thing 6", x -> x.put(6, ALL, 0, 0, 0), BAD);
        t.refused("put cut 4800", x -> x.put(0, 4800, 0, 0, 0), BAD);
        t.refused("put to nothing", x -> x.put(0, ALL, 3, 0, 0), NULL);
        t.refused("put to another lane", x -> x.put(0, ALL, 0, 1, 0), CAST);
        t.refused("put nothing", x -> x.put(0, NOTHING, 0, 0, 0), NONE);
        t.refused("put behind the items", x -> x.put(2, ALL, 0, 0, 3), INDEX);
        t.refused("put ahead of the items", x -> x.put(2, ALL, 0, 0, -1), INDEX);
        t.refused("put to no items", x -> x.put(0, ALL, 2, 2, 0), INDEX);
    }

    private static void askedAll(UnchangedTest t) {
        t.asked("byteAt", x -> x.byteAt(0, 0));
        t.asked("byteAt thing 6", x -> x.byteAt(6, 0));
        t.asked("place", x -> x.place(0, 3));
        t.asked("made", x -> x.made(2, ALL, 1));
        t.asked("fitting", x -> x.fitting(0));
        t.asked("shortest", x -> x.shortest(2));
        t.asked("paper", x -> x.paper(5, 0));
        t.asked("differs", x -> x.differs(5));
        t.asked("settle", ShownOnce::settle);
        t.asked("odd", x -> x.odd(5));
        t.asked("slips", ShownOnce::slips);
        t.asked("state", x -> x.state(2));
        t.asked("end", x -> x.end(2, 0));
        t.asked("otherwise", ShownOnce::otherwise);
        t.asked("kept", x -> x.kept(1, 3));
        t.asked("run", x -> x.run(1, 5, 2));
        t.asked("count", x -> x.count(2));
    }

    private static void whenAllIsFull() {
        UnchangedTest t = new UnchangedTest("full", UnchangedTest::full, "f0,e0");
        t.refusedWithTape("thing", ShownOnce::thing, FULL);
        t.refused("line", x -> x.line(3, 2, 0, 3), FULL);
        t.refused("line with 31", x -> x.line(3, 2, 0, 4), NOT);
        t.refusedWithTape("show an untouched fifth", x -> x.show(9), FULL);
        t.refusedWithTape("show a fifth that is done", x -> x.show(0), FULL);
        t.refused("show thing 12", x -> x.show(12), BAD);
        t.refused("keep", ShownOnce::keep, FULL);
        t.refusedWithTape("text", ShownOnce::text, FULL);
        askedAll(t);
    }

    private static void whenTheTapeIsFull() {
        UnchangedTest t = new UnchangedTest("full tape", UnchangedTest::middle, "f0,e0" + " ".repeat(54) + "+");
        t.refused("type one more", x -> x.type('x', 1), FULL);
        t.refused("type eight more", x -> x.type(Check.word("ABCDEFGH"), 8), FULL);
        t.refused("type a byte", x -> x.type(200, 1), BAD);
        t.refusedWithTape("thing", ShownOnce::thing, NOT);
        t.refusedWithTape("show", x -> x.show(5), NOT);
        t.refusedWithTape("show a done thing", x -> x.show(2), NOT);
        t.refusedWithTape("show a shown thing", x -> x.show(0), NOT);
        t.refusedWithTape("text", ShownOnce::text, -80);
    }

    private static void whenTheTapeIsTooLong() {
        UnchangedTest seventeen = new UnchangedTest("tape of 17", UnchangedTest::middle, "a".repeat(17));
        seventeen.refusedWithTape("thing", ShownOnce::thing, NOT);
        UnchangedTest thirteen = new UnchangedTest("tape of 13", UnchangedTest::middle, "a".repeat(13));
        thirteen.refusedWithTape("show", x -> x.show(0), NOT);
        thirteen.refused("show thing 6", x -> x.show(6), BAD);
        UnchangedTest partly = new UnchangedTest("tape of 55", UnchangedTest::middle, "a".repeat(55));
        partly.refused("type six more", x -> x.type(Check.word("ABCDEF"), 6), FULL);
    }

    private static void whenNothingFits() {
        UnchangedTest t = new UnchangedTest("unfit", UnchangedTest::unfit, "xy");
        t.refused("shortest", x -> x.shortest(0), NONE);
        t.refused("paper", x -> x.paper(0, 0), NONE);
        t.refused("differs", x -> x.differs(0), NONE);
        t.refused("settle", ShownOnce::settle, NONE);
        t.refused("odd", x -> x.odd(0), NONE);
        t.refused("doing", x -> x.doing(12), NONE);
        t.refused("otherwise", ShownOnce::otherwise, NONE);
        t.refused("keep", ShownOnce::keep, NONE);
        t.refused("slips", ShownOnce::slips, 16);
        askedAll(t);
    }

    private static void whenNothingIsShown() {
        UnchangedTest t = new UnchangedTest("nothing shown", UnchangedTest::forgotten, "xy");
        t.refused("fitting", x -> x.fitting(0), NOT);
        t.refused("shortest", x -> x.shortest(0), NOT);
        t.refused("paper", x -> x.paper(0, 0), NOT);
        t.refused("differs", x -> x.differs(0), NOT);
        t.refused("settle", ShownOnce::settle, NOT);
        t.refused("odd", x -> x.odd(0), NOT);
        t.refused("slips", ShownOnce::slips, NOT);
        t.refused("doing", x -> x.doing(12), NOT);
        t.refused("otherwise", ShownOnce::otherwise, NOT);
        t.refused("keep", ShownOnce::keep, NOT);
        t.refused("forget", x -> x.forget(0), NOT);
    }
}
