import java.nio.charset.StandardCharsets;

/** Counts the answers of one test class, tells those that are not due, and makes mines from texts. */
final class Due {
    private final String test;
    private int passed;
    private int failed;

    Due(String test) {
        this.test = test;
    }

    void is(String call, long got, long want) {
        if (got == want) {
            passed++;
            return;
        }
        failed++;
        if (failed <= 20) {
            System.out.println(test + ": " + call + " answered " + got + ", due is " + want);
        }
    }

    /** Tells the count and ends the program with 1 if an answer was wrong. */
    void end() {
        System.out.println(test + ": " + passed + " passed, " + failed + " failed");
        if (failed != 0 || passed == 0) {
            System.exit(1);
        }
    }

    static void write(PrayerTailings x, String text) {
        byte[] bytes = text.getBytes(StandardCharsets.ISO_8859_1);
        for (int from = 0; from < bytes.length; from += 8) {
            int n = Math.min(8, bytes.length - from);
            long v = 0;
            for (int i = 0; i < n; i++) {
                v = v << 8 | bytes[from + i] & 255;
            }
            x.write(n, v);
        }
    }

    static PrayerTailings told(String text) {
        PrayerTailings x = new PrayerTailings();
        write(x, text);
        if (x.mine() < 0) {
            throw new IllegalStateException("no mine: " + text);
        }
        return x;
    }

    /** All that can be asked of the mine, its acts, what is seen and the text, in one row. */
    static String look(PrayerTailings x) {
        StringBuilder all = new StringBuilder();
        for (int what = 0; what < 10; what++) {
            all.append(x.about(what)).append(' ');
        }
        for (int cell = 0; cell < 12; cell++) {
            for (int what = 0; what < 6; what++) {
                all.append(x.cell(cell, what)).append(' ');
            }
        }
        for (int monk = 0; monk < 4; monk++) {
            for (int what = 0; what < 4; what++) {
                all.append(x.monk(monk, what)).append(' ');
            }
        }
        return all.toString();
    }

    void same(String what, String got, String want) {
        is(what + " (the look is the same)", got.equals(want) ? 1 : 0, 1);
    }
}
