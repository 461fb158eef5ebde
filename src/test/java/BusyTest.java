/**
 * An object that was measured as often as 512 calls can ask for answers like a new one of which the same is shown: no row
 * fills up, and nothing is left of what was shown before.
 */
public final class BusyTest {
    private static final Check check = new Check();
    private static final String[] LINES = {
        "1A-2b-3C-4d-", "9z+8Y+7x+6W+", "aB1 cD2 eF3", "Q.r.S.t.1.2.3", "00 aa AA -- 11", "x1Y2z3W4",
    };
    private static final int CALLS = 512;

    public static void main(String[] args) {
        for (int slip = 0; slip < 4; slip++) {
            busy(slip);
        }
        check.close("BusyTest");
    }

    /** Of each line the same bytes are shown, more of them each time; of one now and then another end. */
    private static String endOf(int thing, int round, int slip) {
        int from = round % 3;
        String end = LINES[thing].substring(from, from + 1 + round % 8);
        return thing == slip && round % 2 == 1 ? "?" + end : end;
    }

    private static void busy(int slip) {
        ShownOnce x = Check.with(LINES);
        int calls = 0;
        for (String line : LINES) {
            calls += (line.length() + 7) / 8 + 1;
        }
        String[] shown = new String[4];
        for (int round = 0; calls + 4 <= CALLS; round++) {
            int thing = round % 4;
            String end = endOf(thing, round / 4, slip);
            Check.showOf(x, thing, end);
            calls += (end.length() + 7) / 8 + 1;
            shown[thing] = end;
            if (calls < CALLS) {
                check.due("slips", x.slips(), like(shown).slips());
                calls++;
            }
            if (round % 16 == 3) {
                sameAs(x, like(shown));
                calls += 6;
            }
        }
    }

    private static ShownOnce like(String[] shown) {
        ShownOnce x = Check.with(LINES);
        for (int i = 0; i < shown.length; i++) {
            if (shown[i] != null) {
                Check.showOf(x, i, shown[i]);
            }
        }
        return x;
    }

    private static void sameAs(ShownOnce x, ShownOnce fresh) {
        for (int n = 1; n <= 3; n++) {
            check.due("fitting " + n, x.fitting(n), fresh.fitting(n));
        }
        check.due("shortest", x.shortest(2), fresh.shortest(2));
        check.due("settle", x.settle(), fresh.settle());
        check.due("differs", x.differs(5), fresh.differs(5));
    }
}
