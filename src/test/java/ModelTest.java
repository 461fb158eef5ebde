import java.util.Random;

/** Seeded runs of calls, each answer held against the naive model's. */
public final class ModelTest {
    private static final int RUNS = 400, CALLS = 512;
    private static final String[] LINES = {
        "Ann Lee 12", "Bob Fox 7", "cy old-345", "Eve99", "X-1 y_22", "12/03/2024", "1/2", "a.b@C.de", "AAaaAA11",
        "~!@ #$%", "q", "HTTP2 server", "aaaa", "aaaaaaaaaaaaaaaa", "\"a\"b", "x1y22z333", "Mc Donald", "  lead", "7",
        "ABC-def-GHI-9", "Tom O'Neil", "v1.20.3", "key = value", "K=V", "Zed", "19:45:07", "(555) 123-4567",
    };
    private static final String[] FAMILIES = {
        "W W n", "W, w", "n/n/n", "w.w@w.C", "C-n", "Wn", "w W w", "n", "W", "-w-w-", "(n) w", "CwCw", "w=n;", "W w (C)",
    };
    private static final String[] PLACE_TEXTS = {
        "f0", "f1", "f7", "e0", "e1", "e 7", "bd1", "ad1", "b w2", "awz", "bcz", "ac 1", "bs2", "asz", " bs1", "bw1 ", "aw1",
    };
    private static final String[] SAID_TEXTS = {"\"a\"", "\" \"", "\"- \"", "\"abc\"", "\"+,+\"", "\"   \"", "\"9\""};
    private static final String[] TEXT_PARTS = {
        "f0", "e0", "f7", "e3", "bd1", "ad1", "bw2", "awz", "bcz", "ac1", "bs2", "asz", ",", ",", ",", "u", "l", "+", "+",
        "\"a\"", "\"- \"", "\"abc\"", "\"", " ", "  ", "f", "e", "b", "a", "d", "w", "1", "2", "z", "f8", "\"\"", "x", "f0,e0",
        "bw1,aw1", "bd1 , ad1 u", "f1,f3l", "\"+\"", "f0,f1+\",\"+bd1,e0",
    };

    private final Check check;
    private final int run;
    private final Random random;
    private final ShownOnce x = new ShownOnce();
    private final NaiveModel m = new NaiveModel();
    private final String family;
    private int calls = 0;

    private ModelTest(Check check, int run) {
        this.check = check;
        this.run = run;
        this.random = new Random(run);
        this.family = FAMILIES[random.nextInt(FAMILIES.length)];
    }

    public static void main(String[] args) {
        int runs = args.length > 0 ? Integer.parseInt(args[0]) : RUNS;
        int from = args.length > 1 ? Integer.parseInt(args[1]) : 0;
        Check check = new Check();
        for (int run = from; run < from + runs; run++) {
            new ModelTest(check, run).go();
        }
        check.close("ModelTest");
    }

    private void go() {
        int things = 2 + random.nextInt(8);
        for (int i = 0; i < things; i++) {
            typeText(randomLine());
            same("thing()", x.thing(), m.thing());
        }
        while (calls < CALLS) {
            act();
        }
    }

    private void same(String call, long got, long want) {
        calls++;
        check.due("run " + run + ", call " + calls + ": " + call, got, want);
    }

    private void typeText(String text) {
        for (int i = 0; i < text.length(); i += 8) {
            int n = Math.min(8, text.length() - i);
            long w = Check.word(text.substring(i, i + n));
            same("type(" + w + ", " + n + ")", x.type(w, n), m.type(w, n));
        }
    }

    /** Lines of one run are mostly of one family, so that a program goes through several of them. */
    private String familyLine() {
        StringBuilder line = new StringBuilder();
        for (char c : family.toCharArray()) {
            int times = 1 + random.nextInt(3);
            switch (c) {
                case 'W' -> {
                    line.append((char) ('A' + random.nextInt(5)));
                    line.append("bcdefgh", 0, times);
                }
                case 'w' -> line.append("nopqrst", random.nextInt(4), 4 + random.nextInt(3));
                case 'C' -> line.append("XYZ", 0, times);
                case 'n' -> line.append(random.nextInt(200));
                default -> line.append(c);
            }
        }
        return line.length() > 16 ? line.substring(0, 16) : line.toString();
    }

    private String randomLine() {
        if (random.nextInt(6) > 0) {
            return familyLine();
        }
        if (random.nextInt(3) > 0) {
            String line = LINES[random.nextInt(LINES.length)];
            return line.length() > 16 ? line.substring(0, 16) : line;
        }
        String signs = random.nextBoolean() ? "aB1- " : "abAB12-";
        int size = 1 + random.nextInt(16);
        StringBuilder line = new StringBuilder();
        for (int i = 0; i < size; i++) {
            line.append(signs.charAt(random.nextInt(signs.length())));
        }
        return line.toString();
    }

    /** Mostly a thing, now and then none. */
    private int anyThing() {
        return random.nextInt(20) == 0 ? random.nextInt(16) - 2 : random.nextInt(Math.max(1, m.things()));
    }

    private int anyIndex() {
        return random.nextInt(3) == 0 ? -1 : random.nextInt(20) == 0 ? random.nextInt() : random.nextInt(14) - 2;
    }

    private int anyCut() {
        return random.nextInt(20) == 0 ? random.nextInt(6000) - 600 : random.nextInt(4800);
    }

    private int[] seedProgram = null;

    private int[] randomProgram() {
        int pieces = 1 + random.nextInt(3);
        int[] program = new int[pieces];
        for (int i = 0; i < pieces; i++) {
            boolean typed = pieces == 3 && i == 1 || random.nextInt(4) == 0;
            int at = random.nextInt(4);
            program[i] = typed ? NaiveModel.typedNumber("-, :x9".substring(at, at + 1 + random.nextInt(3)))
                : anyPlace() * 120 + anyPlace() * 3 + Math.max(0, random.nextInt(5) - 2);
        }
        return program;
    }

    private int anyPlace() {
        return random.nextInt(2) == 0 ? random.nextInt(16) : 16 + random.nextInt(24);
    }

    /** An end that a program makes, so that something fits, or a slip of the hand. */
    private String someEnd(int thing) {
        if (thing < 0 || thing >= m.things()) {
            return "gone";
        }
        String line = m.lineOf(thing);
        if (m.count(1) == 0) {
            seedProgram = null;
        }
        for (int tries = 0; tries < 200; tries++) {
            if (seedProgram == null) {
                seedProgram = randomProgram();
            }
            String end = NaiveModel.madeBy(seedProgram, line);
            if (end != null && end.length() <= 12) {
                return random.nextInt(15) == 0 ? slip(end) : end;
            }
            if (m.count(1) == 0 || tries > 150) {
                seedProgram = null;
            }
        }
        return "none";
    }

    private String slip(String end) {
        int at = random.nextInt(end.length());
        return end.substring(0, at) + "?" + end.substring(at + 1);
    }

    private static String oneOf(Random random, String[] texts) {
        return texts[random.nextInt(texts.length)];
    }

    private String goodPiece(boolean typed) {
        if (typed) {
            return oneOf(random, SAID_TEXTS);
        }
        String turn = random.nextInt(3) > 0 ? "" : random.nextBoolean() ? "u" : " l";
        return oneOf(random, PLACE_TEXTS) + "," + oneOf(random, PLACE_TEXTS) + turn;
    }

    private String goodText() {
        int pieces = 1 + random.nextInt(3);
        StringBuilder text = new StringBuilder();
        for (int i = 0; i < pieces; i++) {
            boolean typed = pieces == 3 && i == 1 && random.nextInt(8) > 0 || random.nextInt(3) == 0;
            text.append(i > 0 ? "+" : "").append(goodPiece(typed));
        }
        return text.toString();
    }

    private String someText() {
        if (random.nextInt(3) > 0) {
            String good = goodText();
            int at = random.nextInt(good.length());
            return switch (random.nextInt(6)) {
                case 0 -> good.substring(0, at) + good.substring(at + 1);
                case 1 -> good.substring(0, at) + oneOf(random, TEXT_PARTS) + good.substring(at);
                case 2 -> good.substring(0, at);
                default -> good;
            };
        }
        StringBuilder text = new StringBuilder();
        int parts = 1 + random.nextInt(7);
        for (int i = 0; i < parts; i++) {
            text.append(TEXT_PARTS[random.nextInt(TEXT_PARTS.length)]);
            if (random.nextInt(6) == 0) {
                text.append(' ');
            }
        }
        return text.toString();
    }

    private void act() {
        int dice = random.nextInt(100);
        if (dice < 14) {
            showSome();
        } else if (dice < 60) {
            ask();
        } else if (dice < 75) {
            doSome();
        } else if (dice < 90) {
            useSheets();
        } else {
            typeSome();
        }
    }

    private void showSome() {
        int thing = anyThing();
        boolean stuck = m.fitting(0) == 0;
        if (random.nextInt(stuck ? 2 : 4) == 0) {
            for (int i = 0; i < 20 && m.state(thing) != 1; i++) {
                thing = anyThing();
            }
            same("forget(" + thing + ")", x.forget(thing), m.forget(thing));
            return;
        }
        if (random.nextInt(30) > 0) {
            typeText(random.nextInt(25) == 0 ? "thirteen byte" : someEnd(thing));
        }
        same("show(" + thing + ")", x.show(thing), m.show(thing));
    }

    private void ask() {
        int thing = anyThing();
        int i = anyIndex();
        int small = random.nextInt(7) - 1;
        int cut = anyCut();
        switch (random.nextInt(14)) {
            case 0 -> same("fitting(" + small + ")", x.fitting(small), m.fitting(small));
            case 1 -> same("shortest(" + small + ")", x.shortest(small), m.shortest(small));
            case 2 -> same("paper(" + thing + ", " + i + ")", x.paper(thing, i), m.paper(thing, i));
            case 3 -> same("differs(" + thing + ")", x.differs(thing), m.differs(thing));
            case 4 -> same("settle()", x.settle(), m.settle());
            case 5 -> same("odd(" + thing + ")", x.odd(thing), m.odd(thing));
            case 6 -> same("slips()", x.slips(), m.slips());
            case 7 -> same("state(" + thing + ")", x.state(thing), m.state(thing));
            case 8 -> same("end(" + thing + ", " + i + ")", x.end(thing, i), m.end(thing, i));
            case 9 -> same("otherwise()", x.otherwise(), m.otherwise());
            case 10 -> same("count(" + small + ")", x.count(small), m.count(small));
            case 11 -> same("byteAt(" + thing + ", " + i + ")", x.byteAt(thing, i), m.byteAt(thing, i));
            case 12 -> {
                int place = random.nextInt(42) - 1;
                same("place(" + thing + ", " + place + ")", x.place(thing, place), m.place(thing, place));
            }
            default -> same("made(" + thing + ", " + cut + ", " + i + ")", x.made(thing, cut, i), m.made(thing, cut, i));
        }
    }

    private void doSome() {
        int thing = anyThing();
        int i = anyIndex();
        int program = random.nextInt(6) - 1;
        int what = random.nextInt(7) - 1;
        int n = random.nextInt(5) > 0 ? 1 + random.nextInt(3) : random.nextInt(16) - 1;
        switch (random.nextInt(8)) {
            case 0, 1 -> same("doing(" + n + ")", x.doing(n), m.doing(n));
            case 2, 3 -> same("back()", x.back(), m.back());
            case 4 -> same("keep()", x.keep(), m.keep());
            case 5 -> {
                typeText(someText());
                same("text()", x.text(), m.text());
            }
            case 6 -> same("kept(" + program + ", " + what + ")", x.kept(program, what), m.kept(program, what));
            default -> same("run(" + program + ", " + thing + ", " + i + ")",
                x.run(program, thing, i), m.run(program, thing, i));
        }
    }

    private void useSheets() {
        int sheet = random.nextInt(25) == 0 ? random.nextInt(7) - 2 : random.nextInt(3);
        int lane = random.nextInt(25) == 0 ? random.nextInt(6) - 2 : random.nextInt(6) == 0 ? random.nextInt(3) : sheet;
        int from = random.nextInt(25) == 0 ? random.nextInt() : random.nextInt(3) == 0 ? random.nextInt(22) - 1 : random.nextInt(7);
        boolean missing = sheet >= 0 && sheet < 4 && !m.hasSheet(sheet);
        switch (missing && random.nextInt(3) > 0 ? 0 : random.nextInt(16) == 0 ? 0 : 1 + random.nextInt(7)) {
            case 0 -> {
                int n = random.nextInt(3) == 0 ? random.nextInt(24) - 2 : 12 + random.nextInt(9);
                same("sheet(" + sheet + ", " + lane + ", " + n + ")", x.sheet(sheet, lane, n), m.sheet(sheet, lane, n));
            }
            case 1 -> {
                int n = random.nextInt(10) == 0 ? random.nextInt(20) - 2 : 1 + random.nextInt(4);
                same("line(" + sheet + ", " + lane + ", " + from + ", " + n + ")",
                    x.line(sheet, lane, from, n), m.line(sheet, lane, from, n));
            }
            case 2 -> {
                if (random.nextInt(4) == 0) {
                    same("drop(" + sheet + ")", x.drop(sheet), m.drop(sheet));
                }
            }
            case 3, 4, 5 -> {
                int v = random.nextInt(9) == 0 ? random.nextInt() : 31 + random.nextInt(97);
                v += random.nextInt(5) == 0 ? 65536 * random.nextInt(3) + 256 * random.nextInt(3) : 0;
                same("item(" + sheet + ", " + lane + ", " + from + ", " + v + ")",
                    x.item(sheet, lane, from, v), m.item(sheet, lane, from, v));
            }
            default -> {
                int thing = anyThing();
                int cut = random.nextBoolean() ? 24 + random.nextInt(3) : anyCut();
                same("put(" + thing + ", " + cut + ", " + sheet + ", " + lane + ", " + from + ")",
                    x.put(thing, cut, sheet, lane, from), m.put(thing, cut, sheet, lane, from));
            }
        }
    }

    private void typeSome() {
        switch (random.nextInt(6)) {
            case 0 -> {
                long w = random.nextLong();
                int n = random.nextInt(11) - 1;
                same("type(" + w + ", " + n + ")", x.type(w, n), m.type(w, n));
            }
            case 1 -> typeText(randomLine());
            case 2 -> {
                typeText(randomLine());
                same("thing()", x.thing(), m.thing());
            }
            case 3 -> same("thing()", x.thing(), m.thing());
            case 4 -> {
                typeText(someText());
                same("text()", x.text(), m.text());
            }
            default -> same("text()", x.text(), m.text());
        }
    }
}
