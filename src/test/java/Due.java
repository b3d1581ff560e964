import java.nio.charset.StandardCharsets;
import java.util.Map;
import java.util.WeakHashMap;
import java.util.function.Supplier;
import java.util.function.ToLongFunction;

/** Counts the answers of one test, tells those that are not due, and makes mines from texts. */
final class Due {
    /** An object is used for 512 calls, and a look is 98 of them. */
    private static final int LOOKS_MOST = 4;
    private static final Map<PrayerTailings, Integer> LOOKS = new WeakHashMap<>();

    private final String test;
    private int passed;
    private int failed;

    /** The test's name comes ahead of each wrong answer; without one the first of these is thrown instead. */
    Due(String test) {
        this.test = test;
    }

    void is(String call, long got, long want) {
        if (got == want) {
            passed++;
            return;
        }
        failed++;
        if (test == null) {
            throw new IllegalStateException(call);
        }
        if (failed <= 20) {
            System.out.println(test + ": " + call + " answered " + got + ", due is " + want);
        }
    }

    void same(String what, String got, String want) {
        is(what + " (the look is the same)", got.equals(want) ? 1 : 0, 1);
    }

    /** Counts what another test counted; a test that asked for nothing has failed. */
    void add(Due other) {
        passed += other.passed;
        failed += other.failed;
        is(other.test + " asks for something", other.passed + other.failed > 0 ? 1 : 0, 1);
    }

    /** Tells the count and ends the program with 1 if an answer was wrong. */
    void end() {
        System.out.println(test + ": " + passed + " passed, " + failed + " failed");
        if (failed != 0 || passed == 0) {
            System.exit(1);
        }
    }

    /** A call that is refused answers so, and leaves all as it was. */
    void refused(String call, Supplier<PrayerTailings> made, ToLongFunction<PrayerTailings> asked, int want) {
        PrayerTailings x = made.get();
        is(call, asked.applyAsLong(x), want);
        same(call + " changes nothing", deep(x), deep(made.get()));
    }

    /** A question leaves all as it was. */
    void changesNothing(String call, Supplier<PrayerTailings> made, ToLongFunction<PrayerTailings> asked) {
        PrayerTailings x = made.get();
        asked.applyAsLong(x);
        same(call + " changes nothing", deep(x), deep(made.get()));
    }

    static void write(PrayerTailings x, String text) {
        byte[] bytes = text.getBytes(StandardCharsets.ISO_8859_1);
        for (int from = 0; from < bytes.length; from += 8) {
            int n = Math.min(8, bytes.length - from);
            long v = 0;
            for (int i = 0; i < n; i++) {
                v = v << 8 | bytes[from + i] & 255;
            }
            x.write(n, v);
        }
    }

    static PrayerTailings told(String text) {
        PrayerTailings x = new PrayerTailings();
        write(x, text);
        if (x.mine() < 0) {
            throw new IllegalStateException("no mine: " + text);
        }
        return x;
    }

    /** All that can be asked of the mine, its acts, what is seen and the text, in one row: 98 calls. */
    static String look(PrayerTailings x) {
        if (LOOKS.merge(x, 1, Integer::sum) > LOOKS_MOST) {
            throw new IllegalStateException("a test looks too often at one object");
        }
        StringBuilder all = new StringBuilder();
        for (int what = 0; what < 10; what++) {
            all.append(x.about(what)).append(' ');
        }
        for (int cell = 0; cell < 12; cell++) {
            for (int what = 0; what < 6; what++) {
                all.append(x.cell(cell, what)).append(' ');
            }
        }
        for (int monk = 0; monk < 4; monk++) {
            for (int what = 0; what < 4; what++) {
                all.append(x.monk(monk, what)).append(' ');
            }
        }
        return all.toString();
    }

    /** All that shows of an object when it is taken apart: some 330 calls, with which its use ends. */
    static String deep(PrayerTailings x) {
        StringBuilder all = new StringBuilder(look(x));
        all.append(x.fault()).append(' ').append(x.silent(0)).append(' ').append(x.silent(1)).append(' ');
        all.append(x.seed(0)).append(' ');
        for (int left = x.undo(); left >= 0; left = x.undo()) {
            all.append(left).append(' ').append(x.about(2)).append(' ');
        }
        all.append(glance(x));
        for (int slot = 0; slot < 2; slot++) {
            all.append(x.again(slot)).append(' ').append(glance(x));
        }
        all.append(x.mine()).append(' ').append(look(x));
        return all.toString();
    }

    private static String glance(PrayerTailings x) {
        StringBuilder all = new StringBuilder();
        for (int what = 0; what < 10; what++) {
            all.append(x.about(what)).append(' ');
        }
        for (int cell = 0; cell < 12; cell++) {
            all.append(x.cell(cell, 1)).append(' ');
        }
        for (int monk = 0; monk < 4; monk++) {
            all.append(x.monk(monk, 0)).append(' ');
        }
        return all.toString();
    }

    /** The looseness of the cells, row by row. */
    void loose(PrayerTailings x, String when, int... due) {
        for (int cell = 0; cell < 12; cell++) {
            is("cell(" + cell + ", 1) " + when, x.cell(cell, 1), due[cell]);
        }
    }

    static String two(int cell) {
        return "" + cell / 10 + cell % 10;
    }

    static int far(int a, int b) {
        return Math.abs(a / 4 - b / 4) + Math.abs(a % 4 - b % 4);
    }
}
