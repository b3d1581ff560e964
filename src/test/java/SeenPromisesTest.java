import java.math.BigInteger;

/** Promises 21 to 26: see, unsee, silent, chance, seed, month. */
public final class SeenPromisesTest {
    private static final Due DUE = new Due("SeenPromisesTest");
    private static final int UNKNOWN = -1, BAD = -2, FULL = -4, NONE = -9;
    private static final long MORE = 1442695040888963407L;

    public static void main(String[] args) {
        see();
        silent();
        silentOfBuried();
        chance();
        seed();
        monthOfOneDay();
        monthOfMonksAndDays();
        monthOfBuried();
        DUE.end();
    }

    private static void see() {
        PrayerTailings x = Due.told("M2K050");
        DUE.is("see(12, 101)", x.see(12, 101), UNKNOWN);
        DUE.is("see(-1, 0)", x.see(-1, 0), UNKNOWN);
        DUE.is("see(0, 101)", x.see(0, 101), BAD);
        DUE.is("see(0, -1)", x.see(0, -1), BAD);
        DUE.is("about(8)", x.about(8), 0);
        for (int i = 1; i <= 6; i++) {
            DUE.is("see(0, 100)", x.see(0, i % 2 == 0 ? 0 : 100), i);
        }
        DUE.is("see(0, 0)", x.see(0, 0), FULL);
        DUE.is("see(0, 101)", x.see(0, 101), BAD);
        DUE.is("see(12, 0)", x.see(12, 0), UNKNOWN);
        DUE.is("about(8)", x.about(8), 6);
        DUE.is("unsee()", x.unsee(), 6);
        DUE.is("unsee()", x.unsee(), 0);
        DUE.is("see(11, 100)", x.see(11, 100), 1);
    }

    private static void silentIs(PrayerTailings x, int sets, int surely) {
        DUE.is("silent(0)", x.silent(0), sets);
        DUE.is("silent(1)", x.silent(1), surely);
    }

    private static void silent() {
        PrayerTailings x = Due.told("M2K050K060");
        silentIs(x, 4, 0);
        x.see(5, 2);
        silentIs(x, 1, 1);
        x.see(1, 1);
        silentIs(x, 1, 1);
        x.see(1, 2);
        silentIs(x, 0, NONE);
        x.unsee();
        x.see(0, 0);
        silentIs(x, 4, 0);
        x.see(5, 100);
        silentIs(x, 1, 3);
        x.unsee();
        x.see(5, 0);
        silentIs(x, 1, 0);
        x.unsee();
        x.see(5, 1);
        silentIs(x, 1, 2);
        // It is asked from how all is then.
        x.pray(0);
        silentIs(x, 0, NONE);
        DUE.is("silent(2)", x.silent(2), BAD);
        DUE.is("silent(-1)", x.silent(-1), BAD);
    }

    private static void silentOfBuried() {
        PrayerTailings x = Due.told("M1K000K000");
        x.see(0, 100);
        silentIs(x, 3, 0);
        x.see(5, 100);
        silentIs(x, 3, 0);
        x.pray(0);
        // Nobody is left: one set, that of nobody. A fallen cell is not seen as loose by 0.
        silentIs(x, 1, 0);
        x.see(0, 0);
        silentIs(x, 0, NONE);
        PrayerTailings y = Due.told("M2C06090K050K060K000");
        y.day();
        DUE.is("about(5)", y.about(5), 2);
        y.see(6, 100);
        silentIs(y, 4, 0);
        y.see(5, 100);
        silentIs(y, 2, 1);
    }

    private static void chanceIs(PrayerTailings x, int cell, int tenths, int upper, int lower) {
        DUE.is("chance(" + cell + ", " + tenths + ", true)", x.chance(cell, tenths, true), upper);
        DUE.is("chance(" + cell + ", " + tenths + ", false)", x.chance(cell, tenths, false), lower);
    }

    private static void chance() {
        PrayerTailings x = Due.told("M2K050K060");
        chanceIs(x, 5, 3, 9, 100);
        chanceIs(x, 6, 4, 4, 25);
        chanceIs(x, 5, 5, 1, 4);
        chanceIs(x, 5, 0, 0, 1);
        chanceIs(x, 5, 10, 1, 1);
        chanceIs(x, 1, 7, 0, 1);
        chanceIs(Due.told("M1K000K000"), 0, 5, 3, 4);
        chanceIs(Due.told("M2C00010C03010C08010C11010K000K030K080K110"), 0, 1, 1, 10);
        chanceIs(Due.told("M2C00010C03010C08010C11010K000K030K080K110"), 4, 3, 9, 100);
        chanceIs(Due.told("M9K000K000K000K000"), 0, 1, 0, 1);
        chanceIs(Due.told("M7K000K000K000K000"), 0, 3, 81, 10000);
        chanceIs(Due.told("M1C05090"), 5, 5, 0, 1);
        // Without a prayer there are no waves.
        chanceIs(Due.told("M1C05090K110"), 5, 3, 3, 10);
        PrayerTailings y = Due.told("M2C06090K050K060");
        y.day();
        chanceIs(y, 5, 3, 3, 10);
        chanceIs(y, 6, 3, 1, 1);
        DUE.is("chance(12, 11)", x.chance(12, 11, true), UNKNOWN);
        DUE.is("chance(-1, 0)", x.chance(-1, 0, false), UNKNOWN);
        DUE.is("chance(0, 11)", x.chance(0, 11, true), BAD);
        DUE.is("chance(0, -1)", x.chance(0, -1, false), BAD);
    }

    private static void seed() {
        PrayerTailings x = new PrayerTailings();
        DUE.is("seed(MIN)", x.seed(Long.MIN_VALUE), 0);
        DUE.is("seed(-1)", x.seed(-1), Long.MIN_VALUE);
        DUE.is("seed(7)", x.seed(7), -1);
        DUE.is("seed(0)", x.seed(0), 7);
    }

    /** The seed behind another, told apart from the machine's own arithmetic. */
    private static long next(long seed) {
        BigInteger x = BigInteger.valueOf(seed).multiply(new BigInteger("6364136223846793005"));
        return x.add(BigInteger.valueOf(MORE)).longValue();
    }

    /** What the upper 31 bits of a seed leave by ten. */
    private static int tenth(long seed) {
        BigInteger bits = BigInteger.valueOf(seed).mod(BigInteger.ONE.shiftLeft(64)).shiftRight(33);
        return bits.mod(BigInteger.TEN).intValue();
    }

    private static void monthOfOneDay() {
        PrayerTailings x = Due.told("M1C00900K000");
        String before = Due.look(x);
        DUE.is("month(1, 0)", x.month(1, 0), 0);
        DUE.is("seed(0)", x.seed(0), MORE);
        for (long seed : new long[] {0, 1, -1, 77, Long.MIN_VALUE, Long.MAX_VALUE, 123456789012345L}) {
            for (int t = 0; t <= 10; t++) {
                x.seed(seed);
                DUE.is("month(1, " + t + ") by " + seed, x.month(1, t), tenth(next(seed)) < t ? 9 : 0);
                DUE.is("seed behind it", x.seed(0), next(seed));
            }
        }
        DUE.same("month", Due.look(x), before);
        x.seed(5);
        int[][] bad = {{0, 5}, {31, 5}, {-1, 5}, {1, -1}, {1, 11}, {0, 11}};
        for (int[] pair : bad) {
            DUE.is("month(" + pair[0] + ", " + pair[1] + ")", x.month(pair[0], pair[1]), BAD);
        }
        DUE.is("seed(0): refused months leave it", x.seed(0), 5);
    }

    private static void monthOfMonksAndDays() {
        // Each of the four brings down its own corner, but none another's.
        PrayerTailings x = Due.told("M2C00110C03210C08410C11810K000K030K080K110");
        for (long seed = -40; seed < 40; seed++) {
            long at = seed;
            int taken = 0;
            for (int monk = 0; monk < 4; monk++) {
                at = next(at);
                taken += tenth(at) < 6 ? 1 << monk : 0;
            }
            x.seed(seed);
            DUE.is("month(1, 6) by " + seed, x.month(1, 6), taken);
            DUE.is("seed behind it", x.seed(0), at);
        }
        PrayerTailings idle = Due.told("M9K050K060K110");
        idle.seed(3);
        DUE.is("month(30, 0)", idle.month(30, 0), 0);
        long at = 3;
        for (int step = 0; step < 90; step++) {
            at = next(at);
        }
        DUE.is("seed behind 30 days of 3 monks", idle.seed(0), at);
        // The day goes by behind the prayers: its echoes bring down what they did not.
        PrayerTailings echo = Due.told("M2C00700K000");
        DUE.is("month(1, 10)", echo.month(1, 10), 7);
        DUE.is("psalm 0", echo.psalm(1, 0), NONE);
        // What was taken ahead of it counts.
        PrayerTailings taken = Due.told("M1C00900C11500K000");
        taken.pray(0);
        DUE.is("month(2, 10)", taken.month(2, 10), 9);
        DUE.is("month(1, 10) of nobody", Due.told("M1C05390").month(1, 10), 3);
    }

    private static void monthOfBuried() {
        PrayerTailings x = Due.told("M1K000");
        DUE.is("month(3, 10)", x.month(3, 10), 0);
        DUE.is("seed: the buried don't move it", x.seed(0), MORE);
        x.pray(0);
        DUE.is("month(3, 10)", x.month(3, 10), 0);
        DUE.is("seed", x.seed(0), 0);
        // Monk 1 is buried by the prayer of monk 0 on the same day.
        PrayerTailings y = Due.told("M1K000K000");
        DUE.is("month(1, 10)", y.month(1, 10), 0);
        DUE.is("seed", y.seed(0), MORE);
    }
}
