import java.math.BigInteger;
import java.util.function.Supplier;

/** The boundary sentences of SEEN, SILENT, CHANCE, THE SEED and a MONTH: Terms 3, promises 21 to 26. */
public final class SeenEdgesTest {
    private static final int UNKNOWN = -1, BAD = -2, FULL = -4, NONE = -9;

    public static void main(String[] args) {
        edges().run();
    }

    static Edges edges() {
        Edges all = new Edges("SeenEdgesTest");
        ofSeen(all);
        ofSilent(all);
        ofChance(all);
        ofMonths(all);
        ofSeeCalls(all);
        ofSilentCalls(all);
        ofSeedCalls(all);
        return all;
    }

    private static void ofSeen(Edges all) {
        all.stand("Terms 3", "SEEN: by PRAYERS of those that prayed since, each once, by number", SeenEdgesTest::prayersByNumber)
            .breaksIn("prayAll", "int monk = 0; monk < MONKS; monk++", "int monk = MONKS - 1; monk >= 0; monk--")
            .breaksIn("isSeenBy", "trial.prayAll(set);", "trial.prayAll(set); trial.prayAll(set);")
            .breaksIn("isSeenBy", "trial.prayAll(set);", "trial.prayAll(set & 7);");
        all.stand("Terms 3", "CELL c would be LOOSE by d (0 .. 99) and not FALLEN, or FALLEN (100)", SeenEdgesTest::looseOrFallen)
            .breaks("SEEN_FALLEN = 100", "SEEN_FALLEN = 99")
            .breaks("SEEN_FALLEN = 100", "SEEN_FALLEN = 0")
            .breaksIn("see", "d < 0", "d < 1")
            .breaksIn("isSeenBy", "trial.isFallen(cell) ? SEEN_FALLEN : at(trial.loose, cell)", "at(trial.loose, cell)");
        all.stand("Terms 3", "6 such at most, none at first.", SeenEdgesTest::sixSeen)
            .breaks("SEEN_MOST = 6", "SEEN_MOST = 5")
            .breaks("SEEN_MOST = 6", "SEEN_MOST = 7")
            .breaks("private int seen;", "private int seen = 1;")
            .breaksIn("isSeenBy", "i < seen", "i < seen && i < 5");
    }

    private static void ofSilent(Edges all) {
        all.stand("Terms 3", "SILENT: sets of MONKS (of those not BURIED) that pray so", SeenEdgesTest::setsOfThoseNotBuried)
            .breaksIn("silent", "(set & ~living) == 0", "set < 1 << now.monks")
            .breaksIn("silent", "(set & ~living) == 0", "(set & ~living) == 0 && set != 0")
            .breaksIn("silent", "set < 1 << MONKS", "set < (1 << MONKS) - 1");
        all.stand("Terms 3", "(who is BURIED by then does not pray; the set counts all the same)", SeenEdgesTest::buriedByThen)
            .breaksIn("silent", "isSeenBy(set)", "isSeenBy(set) && (set & trial.buried & ~now.buried & set - 1) == 0");
        all.stand("Terms 3", "by which all that is SEEN is so", SeenEdgesTest::allThatIsSeen)
            .breaksIn("isSeenBy", "int i = 0", "int i = 1")
            .breaksIn("isSeenBy", "i < seen", "i < seen - 1")
            .breaksIn("isSeenBy", "return true;", "return seen < 3;");
        all.stand("Terms 3", "(from how all is when it is asked)", SeenEdgesTest::fromHowAllIs)
            .breaksIn("isSeenBy", "trial.take(now);", "trial.take(acts > 0 ? past[0] : now);");
        all.stand("Terms 3", "how many; who surely prayed (bits).", SeenEdgesTest::whoSurelyPrayed)
            .breaksIn("silent", "surely &= set;", "surely = set;")
            .breaksIn("silent", "surely &= set;", "surely |= set;")
            .breaksIn("silent", "sets++;", "sets = 1;");
    }

    private static void ofChance(Edges all) {
        all.stand("Terms 3", "CHANCE that a CELL is FALLEN behind it, if each MONK prays by x tenths (0 .. 10), by number"
                + " (one that is BURIED, at first or by then, does not)",
                SeenEdgesTest::eachByTenths)
            .breaksIn("prayAll", "int monk = 0; monk < MONKS; monk++", "int monk = MONKS - 1; monk >= 0; monk--")
            .breaksIn("weightOf", "x : TENTHS - x", "TENTHS - x : x")
            .breaksIn("weightOf", "monk < MONKS", "monk < MONKS - 1")
            .breaksIn("chance", "x < 0", "x < 1")
            .breaksIn("chance", "x > TENTHS", "x >= TENTHS");
        all.stand("Terms 3", "a FRACTION.", SeenEdgesTest::aFraction)
            .breaksIn("chance", "commonDivisor(part, whole)", "1")
            .breaksIn("chance", "upper ? part : whole", "upper ? whole : part");
        all.stand("Promise 24", "CHANCE. UNKNOWN; BAD: x.", SeenEdgesTest::chanceRefused)
            .breaksIn("chance", "return UNKNOWN;", "return BAD;")
            .breaksIn("chance", "return BAD;", "return 0;")
            .breaksIn("chance", "x < 0", "x < -1")
            .breaksIn("chance", "x > TENTHS", "x > TENTHS + 1")
            .breaksIn("isCell", "cell < CELLS", "cell <= CELLS");
    }

    private static void ofMonths(Edges all) {
        all.stand("Terms 3", "A MONTH by THE SEED: m DAYS (1 .. 30);", SeenEdgesTest::daysOfAMonth)
            .breaks("DAYS_MOST = 30", "DAYS_MOST = 29")
            .breaks("DAYS_MOST = 30", "DAYS_MOST = 31")
            .breaksIn("month", "m < 1", "m < 2")
            .breaksIn("month", "m < 1", "m < 0")
            .breaksIn("month", "d < m", "d < m - 1");
        all.stand("Terms 3", "on each for each MONK, by number, that is not BURIED, x (THE SEED, a long; 0 at first)",
                SeenEdgesTest::seedOfEachMonk)
            .breaksIn("month", "trial.isLiving(monk) && nextTenth() < t", "nextTenth() < t && trial.isLiving(monk)")
            .breaksIn("month", "int monk = 0; monk < MONKS; monk++", "int monk = MONKS - 1; monk >= 0; monk--")
            .breaksIn("month", "monk < MONKS", "monk < MONKS - 1")
            .breaks("private long seedNow;", "private long seedNow = 1;");
        all.stand("Terms 3", "becomes x times 6364136223846793005 and 1442695040888963407 (64 bits, wrapping)",
                SeenEdgesTest::seedWraps)
            .breaks("6364136223846793005L", "6364136223846793003L")
            .breaks("1442695040888963407L", "1442695040888963409L")
            .breaksIn("nextTenth", "seedNow * SEED_TIMES + SEED_MORE", "seedNow * SEED_TIMES + SEED_MORE & Long.MAX_VALUE")
            .breaksIn("nextTenth", "seedNow * SEED_TIMES", "(long) ((double) seedNow * SEED_TIMES)");
        all.stand("Terms 3", "it prays, if of its upper 31 bits what is left by 10 is less than t (0 .. 10)",
                SeenEdgesTest::upperBitsByTen)
            .breaks("SEED_SHIFT = 33", "SEED_SHIFT = 32")
            .breaks("SEED_SHIFT = 33", "SEED_SHIFT = 34")
            .breaksIn("nextTenth", "seedNow >>> SEED_SHIFT", "seedNow >> SEED_SHIFT")
            .breaksIn("month", "nextTenth() < t", "nextTenth() <= t")
            .breaksIn("month", "t > TENTHS", "t >= TENTHS")
            .breaksIn("month", "t < 0", "t < 1");
        all.stand("Terms 3", "then the DAY goes by: ORE that is TAKEN in all then, with what was TAKEN ahead of it.",
                SeenEdgesTest::takenInAll)
            .breaksIn("month", "trial.endDay();", "")
            .breaksIn("month", "return trial.taken;", "return trial.taken - now.taken;");
        all.stand("Terms 3", "(Nothing changes but THE SEED.)", SeenEdgesTest::onlyTheSeedChanges)
            .breaksIn("month", "return trial.taken;", "now.take(trial); return trial.taken;")
            .breaksIn("nextTenth", "seedNow = seedNow * SEED_TIMES + SEED_MORE;", "long seedNow = this.seedNow * SEED_TIMES + SEED_MORE;");
    }

    private static void ofSeeCalls(Edges all) {
        all.stand("Promise 21", "SEEN: how many there are.", SeenEdgesTest::seeTellsHowMany)
            .breaksIn("see", "return seen;", "return seen - 1;");
        all.stand("Promise 21", "UNKNOWN: cell; BAD: d (0 .. 100);", SeenEdgesTest::seeRefused)
            .breaksIn("see", "d < 0", "d < -1")
            .breaksIn("see", "d < 0", "d < 1")
            .breaksIn("see", "d > SEEN_FALLEN", "d > SEEN_FALLEN + 1")
            .breaksIn("see", "d > SEEN_FALLEN", "d >= SEEN_FALLEN")
            .breaksIn("see", "return UNKNOWN;", "return BAD;")
            .breaksIn("see", "return BAD;", "seen++; return BAD;")
            .breaksIn("isCell", "cell < CELLS", "cell <= CELLS")
            .breaksIn("see", "if (d < 0 || d > SEEN_FALLEN) {", "if (seen < SEEN_MOST && (d < 0 || d > SEEN_FALLEN)) {");
        all.stand("Promise 21", "FULL: 6.", SeenEdgesTest::seeFull)
            .breaks("SEEN_MOST = 6", "SEEN_MOST = 7")
            .breaks("SEEN_MOST = 6", "SEEN_MOST = 5")
            .breaksIn("see", "return FULL;", "put(seenLoose, seen - 1, d); return FULL;");
        all.stand("Promise 22", "Nothing was SEEN: how much there was.", SeenEdgesTest::unsee)
            .breaksIn("unsee", "seen = 0;", "")
            .breaksIn("unsee", "seen = 0;", "seen = Math.max(0, seen - 1);")
            .breaksIn("unsee", "return was;", "return seen;");
    }

    private static void ofSilentCalls(Edges all) {
        all.stand("Promise 23", "SILENT: how many sets (what = 0), who surely prayed (1: bits); NONE (of 1): there is no set.",
                SeenEdgesTest::silentOfNoSet)
            .breaksIn("silent", "sets == 0 ? NONE : surely", "surely")
            .breaksIn("silent", "sets == 0 ? NONE : surely", "surely == 0 ? NONE : surely")
            .breaksIn("silent", "return sets;", "return sets == 0 ? NONE : sets;");
        all.stand("Promise 23", "BAD.", SeenEdgesTest::silentRefused)
            .breaksIn("silent", "what != 0 && what != 1", "what < 0 || what > 2")
            .breaksIn("silent", "what != 0 && what != 1", "what < -1 || what > 1")
            .breaksIn("silent", "return BAD;", "return NONE;");
    }

    private static void ofSeedCalls(Edges all) {
        all.stand("Promise 25", "THE SEED is v: what it was.", SeenEdgesTest::seed)
            .breaksIn("seed", "seedNow = v;", "")
            .breaksIn("seed", "seedNow = v;", "seedNow = (int) v;")
            .breaksIn("seed", "return was;", "return v;");
        all.stand("Promise 26", "A MONTH. BAD: m, t.", SeenEdgesTest::monthRefused)
            .breaksIn("month", "m < 1", "m < 0")
            .breaksIn("month", "m > DAYS_MOST", "m > DAYS_MOST + 1")
            .breaksIn("month", "t < 0", "t < -1")
            .breaksIn("month", "t > TENTHS", "t > TENTHS + 1")
            .breaksIn("month", "return BAD;", "nextTenth(); return BAD;");
    }

    private static void silent(Due due, String when, PrayerTailings x, int sets, int surely) {
        due.is("silent(0) " + when, x.silent(0), sets);
        due.is("silent(1) " + when, x.silent(1), surely);
    }

    private static PrayerTailings seen(String text, int... cellsAndLoose) {
        PrayerTailings x = Due.told(text);
        for (int i = 0; i < cellsAndLoose.length; i += 2) {
            x.see(cellsAndLoose[i], cellsAndLoose[i + 1]);
        }
        return x;
    }

    private static void prayersByNumber(Due due) {
        // Monk 0 buries monk 1; the other way about 2 would have been loosened by a prayer, too.
        String text = "M3C01030C02010K000K010";
        silent(due, "of both, or of 0", seen(text, 1, 100, 2, 2, 0, 3), 2, 1);
        silent(due, "of 1", seen(text, 1, 100, 2, 3), 1, 2);
        // Each once, and each of four.
        silent(due, "of one prayer", seen("M9K000", 0, 2), 1, 1);
        silent(due, "of two prayers", seen("M9K000", 0, 4), 0, NONE);
        silent(due, "of four", seen("M9K050K050K050K050", 5, 8), 1, 15);
        silent(due, "of the fourth", seen("M9K000K000K000K110", 11, 2), 8, 8);
    }

    private static void looseOrFallen(Due due) {
        due.is("see(0, 0)", new PrayerTailings().see(0, 0), 1);
        due.is("see(0, 99)", new PrayerTailings().see(0, 99), 1);
        due.is("see(0, 100)", new PrayerTailings().see(0, 100), 1);
        silent(due, "loose by 0", seen("M9K050", 5, 0), 1, 0);
        silent(due, "loose by 2", seen("M9K050", 5, 2), 1, 1);
        silent(due, "loose by 99", seen("M9K050", 5, 99), 0, NONE);
        silent(due, "fallen", seen("M9K050", 5, 100), 0, NONE);
        silent(due, "fallen", seen("M1K050", 5, 100), 1, 1);
        silent(due, "loose by 0, for nobody prayed", seen("M1K050", 5, 0), 1, 0);
        silent(due, "loose by 99, where it would be fallen", seen("M1K050", 5, 99), 0, NONE);
        PrayerTailings x = seen("M8C05090K110", 5, 0);
        x.day();
        silent(due, "loose by 0, but fallen", x, 0, NONE);
        PrayerTailings y = seen("M8C05090K110", 5, 100);
        y.day();
        silent(due, "fallen ahead of it", y, 2, 0);
    }

    private static void sixSeen(Due due) {
        PrayerTailings x = Due.told("M9K050");
        due.is("about(8)", x.about(8), 0);
        silent(due, "of nothing seen", x, 2, 0);
        for (int i = 1; i <= 6; i++) {
            due.is("see", x.see(1, i < 6 ? 1 : 0), i);
            due.is("about(8)", x.about(8), i);
            silent(due, "of " + i, x, i < 6 ? 1 : 0, i < 6 ? 1 : NONE);
        }
        due.is("see", x.see(1, 1), FULL);
        due.is("about(8)", x.about(8), 6);
    }

    private static void setsOfThoseNotBuried(Due due) {
        silent(due, "of nobody", new PrayerTailings(), 1, 0);
        silent(due, "of one", Due.told("M9K000"), 2, 0);
        silent(due, "of four", Due.told("M9K000K000K000K000"), 16, 0);
        PrayerTailings x = Due.told("M8C05090K050K060K070K110");
        x.day();
        due.is("about(5)", x.about(5), 1);
        silent(due, "of three of four", x, 8, 0);
        x.see(11, 3);
        silent(due, "of three of four", x, 2, 4 + 8);
        PrayerTailings y = Due.told("M8C05090K050K050");
        y.day();
        silent(due, "when all are buried", y, 1, 0);
    }

    private static void buriedByThen(Due due) {
        // Monk 0 brings down the cell of both: with it monk 1 is in the set or not.
        silent(due, "of one cell", seen("M3C00020K000K000", 0, 100, 1, 2), 3, 0);
        silent(due, "of one cell, four", seen("M1K000K000K000K000", 0, 100), 15, 0);
        silent(due, "of a neighbour", seen("M3C01030K000K010", 0, 3), 2, 1);
    }

    private static void allThatIsSeen(Due due) {
        String text = "M9K000K030K080K110";
        silent(due, "of the first", seen(text, 0, 2), 8, 1);
        silent(due, "of two", seen(text, 0, 2, 3, 2), 4, 3);
        silent(due, "of three", seen(text, 0, 2, 3, 2, 8, 2), 2, 7);
        silent(due, "of four", seen(text, 0, 2, 3, 2, 8, 2, 11, 0), 1, 7);
        silent(due, "of six", seen(text, 0, 2, 3, 2, 8, 2, 11, 0, 1, 1, 5, 0), 1, 7);
        silent(due, "when the first is not so", seen(text, 5, 1, 0, 2, 3, 2), 0, NONE);
        silent(due, "when the last is not so", seen(text, 0, 2, 3, 2, 5, 1), 0, NONE);
        silent(due, "of the same, seen otherwise", seen(text, 0, 2, 0, 0), 0, NONE);
        silent(due, "of the same, seen twice", seen(text, 0, 2, 0, 2), 8, 1);
    }

    private static void fromHowAllIs(Due due) {
        PrayerTailings x = seen("M9K000K110", 0, 4);
        silent(due, "at first", x, 0, NONE);
        x.pray(0);
        silent(due, "behind a prayer", x, 2, 1);
        x.pray(0);
        silent(due, "behind two", x, 2, 0);
        x.undo();
        silent(due, "with one undone", x, 2, 1);
        x.doubt(0);
        silent(due, "behind a doubt", x, 0, NONE);
    }

    private static void whoSurelyPrayed(Due due) {
        silent(due, "of either", seen("M9K000K000", 0, 2), 2, 0);
        silent(due, "of both", seen("M9K000K000", 0, 4), 1, 3);
        silent(due, "of nobody", seen("M9K000K000", 0, 0), 1, 0);
        silent(due, "of two of three", seen("M9K000K000K000", 0, 4), 3, 0);
        silent(due, "of 2 and one of the others", seen("M9K000K000K110", 0, 2, 11, 2), 2, 4);
        silent(due, "of 0 and one of the others", seen("M9K110K000K000", 0, 2, 11, 2), 2, 1);
    }

    private static void chance(Due due, PrayerTailings x, int cell, int tenths, int upper, int lower) {
        due.is("chance(" + cell + ", " + tenths + ", true)", x.chance(cell, tenths, true), upper);
        due.is("chance(" + cell + ", " + tenths + ", false)", x.chance(cell, tenths, false), lower);
    }

    private static void eachByTenths(Due due) {
        // One monk brings its cell down by its prayer, so that the chance is x tenths.
        int[][] tenths = {{0, 1}, {1, 10}, {1, 5}, {3, 10}, {2, 5}, {1, 2}, {3, 5}, {7, 10}, {4, 5}, {9, 10}, {1, 1}};
        for (int x = 0; x <= 10; x++) {
            chance(due, Due.told("M1K000"), 0, x, tenths[x][0], tenths[x][1]);
        }
        chance(due, Due.told("M1K110K000"), 11, 3, 3, 10);
        chance(due, Due.told("M9K000K000K000K110"), 11, 3, 0, 1);
        chance(due, Due.told("M1K050K050K050K110"), 11, 3, 3, 10);
        chance(due, Due.told("M7K000K000K000K000"), 0, 3, 81, 10000);
        chance(due, Due.told("M7K000K000K000K000"), 0, 10, 1, 1);
        // By number: 0 buries 1, so that 2 falls only if 1 prays and 0 does not.
        chance(due, Due.told("M3C01030C02020K000K010"), 2, 3, 3 * 7, 100);
        chance(due, Due.told("M3C01030C02020K010K000"), 2, 3, 3, 10);
        // One that is buried at first.
        PrayerTailings x = Due.told("M8C00090C07080K000K110");
        x.day();
        chance(due, x, 7, 3, 3, 10);
        chance(due, x, 0, 3, 1, 1);
        chance(due, x, 0, 0, 1, 1);
        PrayerTailings all = Due.told("M8C00090K000");
        all.day();
        chance(due, all, 1, 10, 0, 1);
    }

    private static void aFraction(Due due) {
        chance(due, Due.told("M1K000"), 11, 5, 0, 1);
        chance(due, Due.told("M1K000"), 0, 10, 1, 1);
        chance(due, Due.told("M1K000K000"), 0, 5, 3, 4);
        chance(due, Due.told("M1K000K000K000K000"), 0, 1, 3439, 10000);
        chance(due, Due.told("M1K000K000K000K000"), 0, 5, 15, 16);
        chance(due, Due.told("M1K000K000K000K000"), 0, 4, 544, 625);
        chance(due, new PrayerTailings(), 0, 5, 0, 1);
    }

    private static void chanceRefused(Due due) {
        Supplier<PrayerTailings> made = () -> seen("M3K050K061", 5, 2);
        for (int cell : new int[] {-1, 12, Integer.MIN_VALUE, Integer.MAX_VALUE}) {
            due.refused("chance(" + cell + ", 5)", made, x -> x.chance(cell, 5, true), UNKNOWN);
            due.refused("chance(" + cell + ", 11): told first", made, x -> x.chance(cell, 11, false), UNKNOWN);
        }
        for (int x : new int[] {-1, 11, Integer.MIN_VALUE, Integer.MAX_VALUE}) {
            due.refused("chance(0, " + x + ", true)", made, y -> y.chance(0, x, true), BAD);
            due.refused("chance(11, " + x + ", false)", made, y -> y.chance(11, x, false), BAD);
        }
        due.is("chance(11, 10)", made.get().chance(11, 10, false), 1);
        due.is("chance(0, 0)", made.get().chance(0, 0, false), 1);
    }

    /** The seed behind another, told apart from the machine's own wrapping. */
    private static long next(long seed) {
        BigInteger x = BigInteger.valueOf(seed).multiply(new BigInteger("6364136223846793005"));
        return x.add(new BigInteger("1442695040888963407")).longValue();
    }

    /** What is left by ten of the upper 31 of its 64 bits. */
    private static int tenth(long seed) {
        BigInteger bits = BigInteger.valueOf(seed).mod(BigInteger.ONE.shiftLeft(64)).shiftRight(33);
        return bits.mod(BigInteger.TEN).intValue();
    }

    private static long nextOf(long seed, int times) {
        long x = seed;
        for (int i = 0; i < times; i++) {
            x = next(x);
        }
        return x;
    }

    private static void daysOfAMonth(Due due) {
        for (int m = 1; m <= 30; m++) {
            PrayerTailings x = Due.told("M9K000");
            due.is("month(" + m + ", 0)", x.month(m, 0), 0);
            due.is("the seed behind " + m + " days", x.seed(0), nextOf(0, m));
        }
        due.is("month(0, 5)", Due.told("M9K000").month(0, 5), BAD);
        due.is("month(31, 5)", Due.told("M9K000").month(31, 5), BAD);
        // By three a day: 0 comes down on the fourth.
        PrayerTailings x = Due.told("M9C00900K000");
        due.is("month(3, 10)", x.month(3, 10), 0);
        due.is("month(4, 10)", x.month(4, 10), 9);
    }

    private static void seedOfEachMonk(Due due) {
        for (int monks = 0; monks <= 4; monks++) {
            PrayerTailings x = Due.told("M9" + "K000".repeat(monks));
            due.is("month(1, 0) of " + monks, x.month(1, 0), 0);
            due.is("the seed behind " + monks, x.seed(0), nextOf(0, monks));
        }
        // Each has its own turn: who brings down its corner is told by the seeds in their order.
        for (long seed = 0; seed < 40; seed++) {
            PrayerTailings x = Due.told("M2C00110C03210C08410C11810K000K030K080K110");
            x.seed(seed);
            int taken = 0;
            for (int monk = 0; monk < 4; monk++) {
                taken += tenth(nextOf(seed, monk + 1)) < 5 ? 1 << monk : 0;
            }
            due.is("month(1, 5) by " + seed, x.month(1, 5), taken);
            due.is("the seed behind it", x.seed(0), nextOf(seed, 4));
        }
        // One that is buried has no turn, be it ahead of the month, on an earlier day, or on the same one.
        PrayerTailings x = Due.told("M8C00090K000K110");
        x.day();
        x.month(1, 0);
        due.is("the seed: one of two is buried", x.seed(0), next(0));
        x.month(30, 0);
        due.is("the seed behind 30 days", x.seed(0), nextOf(0, 30));
        PrayerTailings y = Due.told("M2K000");
        y.month(30, 10);
        due.is("the seed: buried by the first day", y.seed(0), next(0));
        PrayerTailings z = Due.told("M1K000K000");
        z.month(30, 10);
        due.is("the seed: 0 buries 1 ahead of its turn", z.seed(0), next(0));
        PrayerTailings w = Due.told("M1K000K110K000");
        w.month(1, 10);
        due.is("the seed: 0 buries 2, but not 1", w.seed(0), nextOf(0, 2));
    }

    private static void seedWraps(Due due) {
        PrayerTailings x = Due.told("M9K000");
        long[] seeds = {0, 1, -1, Long.MAX_VALUE, Long.MIN_VALUE, 1L << 32, -(1L << 32), 123456789123456789L};
        for (long seed : seeds) {
            x.seed(seed);
            x.month(1, 0);
            due.is("the seed behind " + seed, x.seed(0), next(seed));
        }
        x.month(1, 0);
        due.is("the seed behind 0", x.seed(0), 1442695040888963407L);
        x.seed(-1);
        x.month(1, 0);
        due.is("the seed behind -1", x.seed(0), 1442695040888963407L - 6364136223846793005L);
    }

    private static void upperBitsByTen(Due due) {
        boolean[] met = new boolean[20];
        for (long seed = 1; seed < 200; seed++) {
            long then = next(seed);
            int tenth = tenth(then);
            met[tenth + (then < 0 ? 10 : 0)] = true;
            PrayerTailings x = Due.told("M1C00900K000");
            for (int t = 0; t <= 10; t++) {
                x.seed(seed);
                due.is("month(1, " + t + ") by " + seed, x.month(1, t), tenth < t ? 9 : 0);
            }
        }
        for (int i = 0; i < met.length; i++) {
            due.is("all tenths are met, by seeds of both signs", met[i] ? 1 : 0, 1);
        }
        due.is("month(1, -1)", Due.told("M1C00900K000").month(1, -1), BAD);
        due.is("month(1, 11)", Due.told("M1C00900K000").month(1, 11), BAD);
    }

    private static void takenInAll(Due due) {
        due.is("month(1, 0): the day fells what is too loose", Due.told("M3C05790").month(1, 0), 7);
        due.is("month(1, 10): by the day's echo", Due.told("M2C00700K000").month(1, 10), 7);
        PrayerTailings x = Due.told("M1C00900C11500K000");
        x.pray(0);
        due.is("month(1, 0): what was taken ahead of it", x.month(1, 0), 9);
        PrayerTailings y = Due.told("M9C00290C11300K010K110");
        due.is("pray(0)", y.pray(0), 1);
        due.is("month(1, 10): ahead of it", y.month(1, 10), 2);
        due.is("month(4, 10): ahead of it and by it", y.month(4, 10), 5);
    }

    private static void onlyTheSeedChanges(Due due) {
        Supplier<PrayerTailings> made = () -> {
            PrayerTailings x = seen("M3C00920C05730C11640K000K051K110", 0, 2);
            x.keep(0);
            x.day();
            return x;
        };
        PrayerTailings x = made.get();
        due.is("month(7, 10)", x.month(7, 10), 22);
        due.is("about(4)", x.about(4), 1 << 11);
        x.seed(0);
        due.same("month(7, 10)", Due.deep(x), Due.deep(made.get()));
        PrayerTailings y = made.get();
        y.seed(5);
        y.month(1, 0);
        due.is("the seed", y.seed(0), nextOf(5, 2));
    }

    private static void seeTellsHowMany(Due due) {
        PrayerTailings x = new PrayerTailings();
        for (int i = 1; i <= 6; i++) {
            due.is("see(0, 0)", x.see(0, 0), i);
        }
    }

    private static void seeRefused(Due due) {
        Supplier<PrayerTailings> made = () -> seen("M9K050K061", 5, 4);
        Supplier<PrayerTailings> full = () -> seen("M9K050K061", 5, 4, 5, 4, 5, 4, 5, 4, 5, 4, 5, 4);
        for (int cell : new int[] {-1, 12, Integer.MIN_VALUE, Integer.MAX_VALUE}) {
            due.refused("see(" + cell + ", 0)", made, x -> x.see(cell, 0), UNKNOWN);
            due.refused("see(" + cell + ", 101): told first", made, x -> x.see(cell, 101), UNKNOWN);
            due.refused("see(" + cell + ", 0) when full: told first", full, x -> x.see(cell, 0), UNKNOWN);
        }
        for (int d : new int[] {-1, 101, Integer.MIN_VALUE, Integer.MAX_VALUE}) {
            due.refused("see(0, " + d + ")", made, x -> x.see(0, d), BAD);
            due.refused("see(0, " + d + ") when full: told first", full, x -> x.see(0, d), BAD);
        }
        due.is("see(0, 0)", made.get().see(0, 0), 2);
        due.is("see(11, 100)", made.get().see(11, 100), 2);
    }

    private static void seeFull(Due due) {
        Supplier<PrayerTailings> full = () -> seen("M9K050K061", 5, 4, 5, 4, 5, 4, 5, 4, 5, 4, 5, 4);
        silent(due, "when full", full.get(), 1, 1);
        due.refused("see(5, 0)", full, x -> x.see(5, 0), FULL);
        due.refused("see(5, 4)", full, x -> x.see(5, 4), FULL);
        due.is("see(5, 4), the sixth", seen("M3K050", 5, 4, 5, 4, 5, 4, 5, 4, 5, 4).see(5, 4), 6);
    }

    private static void unsee(Due due) {
        due.is("unsee() of none", new PrayerTailings().unsee(), 0);
        PrayerTailings x = seen("M9K050", 5, 4, 5, 4, 5, 4, 5, 4, 5, 4, 5, 4);
        silent(due, "when full", x, 0, NONE);
        due.is("unsee()", x.unsee(), 6);
        due.is("about(8)", x.about(8), 0);
        silent(due, "of nothing", x, 2, 0);
        due.is("unsee()", x.unsee(), 0);
        due.is("see(5, 2)", x.see(5, 2), 1);
        silent(due, "of the new one alone", x, 1, 1);
        due.is("unsee()", x.unsee(), 1);
    }

    private static void silentOfNoSet(Due due) {
        silent(due, "of no set", seen("M9K050", 5, 3), 0, NONE);
        silent(due, "of one set, in which nobody prays", seen("M9K050", 5, 0), 1, 0);
        silent(due, "of all sets", seen("M9K050K060", 11, 0), 4, 0);
        silent(due, "of no set of nobody", seen("M9", 5, 1), 0, NONE);
    }

    private static void silentRefused(Due due) {
        Supplier<PrayerTailings> made = () -> seen("M3K050K061", 5, 3);
        for (int what : new int[] {-1, 2, Integer.MIN_VALUE, Integer.MAX_VALUE}) {
            due.refused("silent(" + what + ")", made, x -> x.silent(what), BAD);
            due.is("silent(" + what + ") of nothing", new PrayerTailings().silent(what), BAD);
        }
    }

    private static void seed(Due due) {
        PrayerTailings x = new PrayerTailings();
        long was = 0;
        for (long v : new long[] {1, -1, Long.MIN_VALUE, Long.MAX_VALUE, 1L << 32, -5, 0, 7}) {
            due.is("seed(" + v + ")", x.seed(v), was);
            was = v;
        }
        due.is("seed(0)", x.seed(0), 7);
    }

    private static void monthRefused(Due due) {
        Supplier<PrayerTailings> made = () -> {
            PrayerTailings x = seen("M3K050K061", 5, 3);
            x.seed(99);
            return x;
        };
        for (int m : new int[] {0, 31, -1, Integer.MIN_VALUE, Integer.MAX_VALUE}) {
            due.refused("month(" + m + ", 5)", made, x -> x.month(m, 5), BAD);
            due.refused("month(" + m + ", 11)", made, x -> x.month(m, 11), BAD);
        }
        for (int t : new int[] {-1, 11, Integer.MIN_VALUE, Integer.MAX_VALUE}) {
            due.refused("month(1, " + t + ")", made, x -> x.month(1, t), BAD);
            due.refused("month(30, " + t + ")", made, x -> x.month(30, t), BAD);
        }
        due.is("month(30, 10)", made.get().month(30, 10), 0);
        due.is("month(1, 0)", made.get().month(1, 0), 0);
    }
}
