import java.util.function.Supplier;

/** The boundary sentences of PSALMS, BEST, OATHS for all and DOWN: Terms 2, promises 15 to 20. */
public final class PsalmEdgesTest {
    private static final int UNKNOWN = -1, BAD = -2, LATE = -3, NONE = -9;

    public static void main(String[] args) {
        edges().run();
    }

    static Edges edges() {
        Edges all = new Edges("PsalmEdgesTest");
        ofPsalms(all);
        ofBest(all);
        ofOathsForAll(all);
        ofDown(all);
        ofFallsAndPsalm(all);
        ofBestCalls(all);
        return all;
    }

    private static void ofPsalms(Edges all) {
        all.stand("Terms 2", "In what follows nothing is changed.", PsalmEdgesTest::questionsChangeNothing)
            .breaksIn("falls", "trial.take(now);", "trial.take(now); now.prayer(monk);")
            .breaksIn("breakOf", "trial.prayer(monk);", "trial.prayer(monk); now.prayer(monk);")
            .breaksIn("oaths", "trial.take(now);", "trial.take(now); now.loosenBy(0);")
            .breaksIn("down", "trial.endDay();", "trial.endDay(); now.days++;");
        all.stand("Terms 2", "A PSALM: a row of PRAYERS by MONKS, told as figures, the first one first",
                PsalmEdgesTest::firstFigureFirst)
            .breaksIn("psalm", "put(song, i, rest % 10);", "put(song, n - 1 - i, rest % 10);");
        all.stand("Terms 2", "the place (from 0) of the first that can not be (there is no such MONK, or it is BURIED)",
                PsalmEdgesTest::firstThatCanNotBe)
            .breaksIn("breakOf", "!trial.isLiving(monk)", "!trial.isMonk(monk)")
            .breaksIn("breakOf", "!trial.isLiving(monk)", "monk >= MONKS || has(trial.buried, monk)")
            .breaksIn("breakOf", "return i;\n            }\n            trial", "return i + 1;\n            }\n            trial")
            .breaksIn("breakOf", "return i;\n            }\n            trial", "continue;\n            }\n            trial");
        all.stand("Terms 2", "or by which some MONK is BURIED.", PsalmEdgesTest::firstThatBuries)
            .breaksIn("breakOf", "trial.buried != now.buried", "has(trial.buried, monk)")
            .breaksIn("breakOf", "trial.buried != now.buried", "false")
            .breaksIn("breakOf", "trial.buried != now.buried", "trial.buried != 0");
    }

    private static void ofBest(Edges all) {
        all.stand("Terms 2", "BEST for n PRAYERS (1 .. 3):", PsalmEdgesTest::bestOfOneToThree)
            .breaks("BEST_MOST = 3", "BEST_MOST = 2")
            .breaks("BEST_MOST = 3", "BEST_MOST = 4")
            .breaksIn("best", "n < 1", "n < 2")
            .breaksIn("best", "n < 1", "n < 0")
            .breaksIn("bestCode", "tried < 1 << 2 * n", "tried < 1 << 2")
            .breaksIn("bestCode", "tried < 1 << 2 * n", "tried < (1 << 2 * n) - 1");
        all.stand("Terms 2", "the PSALM of n by which nobody is BURIED", PsalmEdgesTest::bestBuriesNobody)
            .breaksIn("breakOf", "trial.buried != now.buried", "false")
            .breaksIn("breakOf", "trial.buried != now.buried", "has(trial.buried, monk)")
            .breaksIn("bestCode", "breakOf(n) == NONE", "breakOf(n) != 0");
        all.stand("Terms 2", "and what is TAKEN is most; of like ones the first by MONKS;", PsalmEdgesTest::bestOfLikeOnes)
            .breaksIn("bestCode", "trial.taken > most", "trial.taken >= most")
            .breaksIn("bestCode", "trial.taken > most", "most < 0")
            .breaksIn("figureOf", "2 * (n - 1 - i)", "2 * i")
            .breaksIn("figureOf", "2 * (n - 1 - i)", "(n - 1 - i)")
            .breaksIn("figureOf", "& 3", "& 1");
        all.stand("Terms 2", "NONE: there is none such.", PsalmEdgesTest::noneIsBest)
            .breaksIn("bestCode", "int code = NONE;", "int code = 0;")
            .breaksIn("bestCode", "int most = -1;", "int most = 0;");
    }

    private static void ofOathsForAll(Edges all) {
        all.stand("Terms 2", "OATHS for all: the fewest PROPS more (anywhere, none where it is FALLEN,"
                + " as many as are needed on each) by which nothing FALLS",
                PsalmEdgesTest::oathsAnywhere)
            .breaksIn("propsWanting", "Math.max(0, loose[cell] - hold - props[cell])",
                "Math.max(0, Math.min(9 - props[cell], loose[cell] - hold - props[cell]))")
            .breaksIn("propsWanting", "Math.max(0, loose[cell] - hold - props[cell])",
                "Math.max(0, Math.min(9, loose[cell] - hold - props[cell]))")
            .breaksIn("propsWanting", "Math.max(0, loose[cell] - hold - props[cell])", "Math.max(0, loose[cell] - hold)")
            .breaksIn("propsWanting", "Math.max(0, loose[cell] - hold - props[cell])", "loose[cell] - hold - props[cell]")
            .breaksIn("propsWanting", "Math.max(0, loose[cell] - hold - props[cell])",
                "(loose[cell] > hold + props[cell] ? 1 : 0)")
            .breaksIn("loosen", "cells & ~fallen", "cells");
        all.stand("Terms 2", "(CELLS that are LOOSE by too much already, too)", PsalmEdgesTest::oathsForWhatIsTooLoose)
            .breaksIn("oaths", "return trial.propsWanting();",
                "int more = trial.propsWanting(); trial.take(now); return more - trial.propsWanting();");
        all.stand("Terms 2", "if each MONK that is not BURIED prays once (0: nothing would, or nobody prays).",
                PsalmEdgesTest::oathsIfEachPrays)
            .breaksIn("oaths", "if (living == 0) {", "if (false) {")
            .breaksIn("oaths", "return 0;", "return NONE;")
            .breaksIn("oaths", "has(living, monk)", "now.isMonk(monk) && monk < 3")
            .breaksIn("oaths", "trial.loosenBy(monk);", "trial.loosenBy(monk); trial.loosenBy(monk);");
    }

    private static void ofDown(Edges all) {
        all.stand("Terms 2", "DOWN: the fewest DAYS (0 .. 30) behind which a CELL is FALLEN (0: it is)", PsalmEdgesTest::downByDays)
            .breaks("DAYS_MOST = 30", "DAYS_MOST = 18")
            .breaksIn("down", "int days = 0", "int days = 1")
            .breaksIn("down", "days <= DAYS_MOST", "days < DAYS_MOST - 11")
            .breaksIn("down", "return days;", "return trial.days;");
        all.stand("Terms 2", "if on each of them all MONKS that are not BURIED pray, by number, ahead of its end; NONE.",
                PsalmEdgesTest::downIfAllPray)
            .breaksIn("prayAll", "has(set, monk) && isLiving(monk)", "has(set, monk)")
            .breaksIn("prayAll", "int monk = 0; monk < MONKS; monk++", "int monk = MONKS - 1; monk >= 0; monk--")
            .breaksIn("prayAll", "monk < MONKS", "monk < MONKS - 1")
            .breaksIn("down", "trial.prayAll((1 << MONKS) - 1);\n            trial.endDay();",
                "trial.endDay();\n            trial.prayAll((1 << MONKS) - 1);")
            .breaksIn("down", "return NONE;", "return DAYS_MOST;");
        all.stand("Promise 20", "DOWN; NONE.", PsalmEdgesTest::downNone)
            .breaksIn("down", "return NONE;", "return DAYS_MOST + 1;")
            .breaksIn("down", "return NONE;", "return LATE;");
        all.stand("Promise 20", "UNKNOWN.", PsalmEdgesTest::downRefused)
            .breaksIn("down", "return UNKNOWN;", "return NONE;")
            .breaksIn("isCell", "cell < CELLS", "cell <= CELLS")
            .breaksIn("isCell", "cell >= 0", "cell >= -1");
    }

    private static void ofFallsAndPsalm(Edges all) {
        all.stand("Promise 15", "Which CELLS would FALL by a PRAYER.", PsalmEdgesTest::fallsTellsWhatWouldFall)
            .breaksIn("falls", "return trial.prayer(monk);", "trial.prayer(monk); return trial.fallen;")
            .breaksIn("falls", "trial.take(now);", "");
        all.stand("Promise 15", "UNKNOWN; LATE: it is BURIED.", PsalmEdgesTest::fallsRefused)
            .breaksIn("falls", "return UNKNOWN;", "return LATE;")
            .breaksIn("falls", "return LATE;", "return 0;")
            .breaksIn("falls", "!now.isLiving(monk)", "!now.isMonk(monk)")
            .breaksIn("isMonk", "monk < monks", "monk <= monks");
        all.stand("Promise 16", "A PSALM of n PRAYERS (1 .. 8): that place (from 0); NONE: all can be, nobody is BURIED.",
                PsalmEdgesTest::psalmOfOneToEight)
            .breaks("PSALM_MOST = 8", "PSALM_MOST = 7")
            .breaksIn("psalm", "n < 1", "n < 2")
            .breaksIn("psalm", "breakOf(n)", "breakOf(n - 1)")
            .breaksIn("breakOf", "return NONE;", "return n;");
        all.stand("Promise 16", "BAD: n, row (0 or more, n figures at most).", PsalmEdgesTest::psalmRefused)
            .breaks("PSALM_MOST = 8", "PSALM_MOST = 9")
            .breaksIn("psalm", "n < 1", "n < 0")
            .breaksIn("psalm", "row < 0", "row < -1")
            .breaksIn("psalm", "row < 0", "row < 1")
            .breaksIn("psalm", "rest != 0", "rest > 1")
            .breaksIn("psalm", "return rest != 0 ? BAD : breakOf(n);", "return breakOf(n);");
    }

    private static void ofBestCalls(Edges all) {
        all.stand("Promise 17", "BEST: what is TAKEN by it; NONE.", PsalmEdgesTest::bestTellsWhatIsTaken)
            .breaksIn("best", "trial.taken - now.taken", "trial.taken")
            .breaksIn("best", "breakOf(n);", "")
            .breaksIn("best", "return NONE;", "return 0;");
        all.stand("Promise 17", "BAD: n.", PsalmEdgesTest::bestRefused)
            .breaksIn("best", "n < 1", "n < 0")
            .breaksIn("best", "n > BEST_MOST", "n > BEST_MOST + 1")
            .breaksIn("best", "return BAD;", "return NONE;");
        all.stand("Promise 18", "The i-th MONK (from 0) of it; NONE: there is none such.", PsalmEdgesTest::bestAtTellsMonks)
            .breaksIn("bestAt", "i < 0 ||", "")
            .breaksIn("bestAt", "i >= n", "i > n")
            .breaksIn("bestAt", "i >= n", "i >= n - 1")
            .breaksIn("bestAt", "figureOf(n, code, i)", "figureOf(n, code, n - 1 - i)")
            .breaksIn("bestAt", "code == NONE ? NONE : figureOf(n, code, i)", "figureOf(n, code, i)");
        all.stand("Promise 18", "BAD: n.", PsalmEdgesTest::bestAtRefused)
            .breaksIn("bestAt", "n < 1", "n < 0")
            .breaksIn("bestAt", "n > BEST_MOST", "n > BEST_MOST + 1")
            .breaksIn("bestAt", "return BAD;", "return NONE;")
            .breaksIn("bestAt", "if (n < 1 || n > BEST_MOST) {", "if ((n < 1 || n > BEST_MOST) && i >= 0 && i < 3) {");
        all.stand("Promise 19", "OATHS for all.", PsalmEdgesTest::oathsIsTheFewest)
            .breaksIn("oaths", "return trial.propsWanting();", "return trial.propsWanting() + 1;")
            .breaksIn("propsWanting", "loose[cell] - hold", "loose[cell] + 1 - hold");
    }

    /** Acts, a slot, something seen, a seed, a buried monk, and cells that are about to fall. */
    private static PrayerTailings used() {
        PrayerTailings x = Due.told("M5C00951C05790C01650C11931K000K051K010K110");
        x.keep(0);
        x.day();
        x.pray(3);
        x.see(11, 7);
        x.seed(42);
        return x;
    }

    private static void questionsChangeNothing(Due due) {
        due.is("about(4)", used().about(4), 1 << 5 | 1 << 1);
        due.is("falls(0)", used().falls(0), 1);
        due.changesNothing("falls(0)", PsalmEdgesTest::used, x -> x.falls(0));
        due.changesNothing("psalm(3, 333)", PsalmEdgesTest::used, x -> x.psalm(3, 333));
        due.changesNothing("best(3)", PsalmEdgesTest::used, x -> x.best(3));
        due.changesNothing("bestAt(3, 2)", PsalmEdgesTest::used, x -> x.bestAt(3, 2));
        due.changesNothing("oaths()", PsalmEdgesTest::used, PrayerTailings::oaths);
        due.changesNothing("down(8)", PsalmEdgesTest::used, x -> x.down(8));
        due.changesNothing("silent(0)", PsalmEdgesTest::used, x -> x.silent(0));
        due.changesNothing("chance(0, 5, true)", PsalmEdgesTest::used, x -> x.chance(0, 5, true));
    }

    private static void firstFigureFirst(Due due) {
        PrayerTailings x = Due.told("M9K000K110");
        due.is("psalm(2, 12)", x.psalm(2, 12), 1);
        due.is("psalm(2, 21)", x.psalm(2, 21), 0);
        due.is("psalm(3, 2): 0, 0, 2", x.psalm(3, 2), 2);
        due.is("psalm(3, 20): 0, 2, 0", x.psalm(3, 20), 1);
        due.is("psalm(3, 201)", x.psalm(3, 201), 0);
    }

    private static void firstThatCanNotBe(Due due) {
        due.is("psalm(1, 0) of none", Due.told("M9").psalm(1, 0), 0);
        PrayerTailings four = Due.told("M9K000K030K080K110");
        for (int figure = 0; figure <= 9; figure++) {
            due.is("psalm(1, " + figure + ")", four.psalm(1, figure), figure < 4 ? NONE : 0);
            due.is("psalm(8, 0123012" + figure + ")", four.psalm(8, 1230120 + figure), figure < 4 ? NONE : 7);
        }
        due.is("psalm(8, 49999999)", four.psalm(8, 49999999), 0);
        // One that was buried ahead of the psalm.
        PrayerTailings x = Due.told("M8C05090K050K110");
        x.day();
        due.is("psalm(1, 0) buried", x.psalm(1, 0), 0);
        due.is("psalm(3, 110)", x.psalm(3, 110), 2);
        due.is("psalm(3, 111): that one was buried is nothing new", x.psalm(3, 111), NONE);
        due.is("psalm(4, 1113)", x.psalm(4, 1113), 3);
    }

    private static void firstThatBuries(Due due) {
        PrayerTailings x = Due.told("M5K050K110");
        due.is("psalm(3, 000): itself, by its third", x.psalm(3, 0), 2);
        due.is("psalm(8, 00000000)", x.psalm(8, 0), 2);
        due.is("psalm(5, 01100)", x.psalm(5, 1100), 4);
        // Another one, and one behind a wave.
        PrayerTailings y = Due.told("M3C06030K050K060K110");
        due.is("psalm(1, 0): another", y.psalm(1, 0), 0);
        due.is("psalm(2, 20)", y.psalm(2, 20), 1);
        PrayerTailings z = Due.told("M3C00030C01030C02030K040K020");
        due.is("psalm(1, 0): behind two waves", z.psalm(1, 0), 0);
        PrayerTailings buried = Due.told("M8C05090K050K110");
        buried.day();
        due.is("psalm(4, 1111): nobody anew", buried.psalm(4, 1111), NONE);
        due.is("psalm(5, 11111): itself", buried.psalm(5, 11111), 4);
    }

    private static void best(Due due, PrayerTailings x, int n, int taken, int... monks) {
        due.is("best(" + n + ")", x.best(n), taken);
        for (int i = 0; i < n; i++) {
            due.is("bestAt(" + n + ", " + i + ")", x.bestAt(n, i), taken == NONE ? NONE : monks[i]);
        }
    }

    private static void bestOfOneToThree(Due due) {
        PrayerTailings x = Due.told("M3C02530C04630C11730K030K080K100K000");
        due.is("best(0)", x.best(0), BAD);
        best(due, x, 1, 7, 2);
        best(due, x, 2, 13, 1, 2);
        best(due, x, 3, 18, 0, 1, 2);
        due.is("best(4)", x.best(4), BAD);
        // The last psalm of all is the best.
        best(due, Due.told("M5C10930C11009K000K030K010K110"), 3, 9, 3, 3, 3);
    }

    private static void bestBuriesNobody(Due due) {
        // Monk 0 would bring most, but bury itself; monk 1 would bring less, but bury monk 2.
        PrayerTailings x = Due.told("M3C00930C11530C07120K000K100K110K030");
        best(due, x, 1, 0, 3);
        PrayerTailings y = Due.told("M3C00930C07120K000K030");
        best(due, y, 1, 0, 1);
        best(due, y, 2, NONE);
        PrayerTailings safe = Due.told("M3C00930C04520K010K110");
        best(due, safe, 1, 9, 0);
    }

    private static void bestOfLikeOnes(Due due) {
        best(due, Due.told("M9K000K030K080K110"), 1, 0, 0);
        best(due, Due.told("M9K000K030K080K110"), 2, 0, 0, 0);
        best(due, Due.told("M9K000K030K080K110"), 3, 0, 0, 0, 0);
        best(due, Due.told("M3C02530C07630C09630K110K030K080"), 1, 6, 0);
        best(due, Due.told("M3C02530C03001C07530C09530K000K030K080"), 1, 10, 1);
        best(due, Due.told("M3C02530C09530K000K030K080"), 1, 5, 1);
        best(due, Due.told("M3C02530C09530K000K030K080"), 2, 10, 1, 2);
        best(due, Due.told("M3C02530C09530K000K030K080"), 3, 10, 0, 1, 2);
        for (int a = 0; a < 4; a++) {
            best(due, eachBrings(a), 1, 5, a);
            for (int b = a; b < 4; b++) {
                best(due, eachBrings(a, b), 2, a == b ? 5 : 10, a, b);
                for (int c = b; c < 4; c++) {
                    best(due, eachBrings(a, b, c), 3, a == c ? 5 : a == b || b == c ? 10 : 15, a, b, c);
                }
            }
        }
        // The figure that comes first counts first, be the later ones as they are.
        best(due, Due.told("M5C02550K080K030"), 2, 5, 0, 1);
        best(due, Due.told("M5C02550K080K030"), 3, 5, 0, 0, 1);
    }

    /**
     * Each monk of the song has a cell of its own that comes down when it has prayed as often as it is told;
     * those of 0 and 1, and of 2 and 3, are neighbours, so that the second needs one more for the first one's fall.
     */
    private static PrayerTailings eachBrings(int... song) {
        int[] times = new int[4];
        for (int monk : song) {
            times[monk]++;
        }
        int[] cells = {1, 2, 9, 10};
        StringBuilder text = new StringBuilder("M9");
        for (int monk = 0; monk < 4; monk++) {
            if (times[monk] > 0) {
                int helped = monk % 2 == 1 && times[monk - 1] > 0 ? 1 : 0;
                text.append('C').append(Due.two(cells[monk])).append('5').append(10 - times[monk] - helped).append('0');
            }
        }
        return Due.told(text + "K000K030K080K110");
    }

    private static void noneIsBest(Due due) {
        best(due, new PrayerTailings(), 1, NONE);
        best(due, Due.told("M9"), 3, NONE);
        PrayerTailings x = Due.told("M1K000K110");
        best(due, x, 1, NONE);
        best(due, x, 3, NONE);
        x.pray(0);
        x.pray(1);
        due.is("about(5)", x.about(5), 3);
        best(due, x, 1, NONE);
        // One prayer can be, two can't; one that takes nothing is one all the same.
        PrayerTailings y = Due.told("M3K000");
        best(due, y, 1, 0, 0);
        best(due, y, 2, NONE);
    }

    private static void oathsAnywhere(Due due) {
        due.is("oaths()", Due.told("M1K000").oaths(), 1);
        due.is("oaths(): anywhere, not under a monk alone", Due.told("M1C01010C04020K000").oaths(), 1 + 1 + 2);
        due.is("oaths(): what props bear", Due.told("M1C00001K000").oaths(), 0);
        due.is("oaths(): props that bear more are no help elsewhere", Due.told("M1C00009C01010K000").oaths(), 1);
        due.is("oaths(): a tenth prop", Due.told("M1C00099K000").oaths(), 1);
        due.is("oaths(): fifteen on one, seven on two", Due.told("M1K000K001K000K001").oaths(), 15 + 7 + 7);
        // From a fallen cell, among fallen ones.
        PrayerTailings x = Due.told("M8C00090C01090C05080K040K110");
        due.is("day()", x.day(), 1 | 1 << 1 | 1 << 5);
        due.loose(x, "behind the day", 0, 0, 1, 0, 2, 0, 1, 0, 0, 1, 0, 0);
        x.walk(0, 5);
        due.is("oaths(): all hold", x.oaths(), 0);
        PrayerTailings y = Due.told("M1C00020K110");
        due.is("day()", y.day(), 1);
        y.walk(0, 10);
        y.walk(0, 9);
        y.walk(0, 8);
        y.walk(0, 4);
        y.walk(0, 0);
        due.is("oaths() of one on a fallen cell: 1 and 4", y.oaths(), 2);
    }

    private static void oathsForWhatIsTooLoose(Due due) {
        due.is("oaths()", Due.told("M1C11050K000").oaths(), 4 + 1);
        due.is("oaths()", Due.told("M2C11050C05091C00030K000").oaths(), 3 + 6 + 3);
        due.is("oaths()", Due.told("M9C11990K000").oaths(), 0);
        due.is("oaths(): as loose as it may be", Due.told("M4C11051K000").oaths(), 0);
    }

    private static void oathsIfEachPrays(Due due) {
        due.is("oaths() of a new object", new PrayerTailings().oaths(), 0);
        due.is("oaths(): nobody prays", Due.told("M1C11050").oaths(), 0);
        due.is("oaths(): nothing would fall", Due.told("M9K000K030K080K110").oaths(), 0);
        due.is("oaths(): each of four prays", Due.told("M1K000K030K080K110").oaths(), 4 + 2);
        due.is("oaths(): both pray, once", Due.told("M3K000K000").oaths(), 1);
        // One that is buried does not pray; when all are, nobody does.
        PrayerTailings x = Due.told("M8C00090C11080C10080K000K110");
        due.is("oaths(): both", x.oaths(), 3 + 2 + 1);
        due.is("day()", x.day(), 1);
        due.is("oaths(): one of two", x.oaths(), 2 + 1);
        PrayerTailings y = Due.told("M8C00090C11080K000");
        y.day();
        due.is("about(5)", y.about(5), 1);
        due.is("oaths(): all are buried", y.oaths(), 0);
    }

    private static void downByDays(Due due) {
        PrayerTailings x = Due.told("M3C05090");
        due.is("down(5): by the first day", x.down(5), 1);
        x.day();
        due.is("down(5): it is", x.down(5), 0);
        x.day();
        due.is("down(5): it is, for a day", x.down(5), 0);
        // A monk brings down its own cell by three a day.
        for (int hold = 1; hold <= 9; hold++) {
            due.is("down(0) of hold " + hold, Due.told("M" + hold + "K000").down(0), hold / 3 + 1);
        }
        due.is("down(0) of 18", Due.told("M9C00009K000").down(0), 7);
        // From a fallen cell it brings down the next one by one a day, which is the longest that it can take.
        PrayerTailings y = Due.told("M9C00090C01009C04009K040");
        due.is("pray(0)", y.pray(0), 1);
        y.walk(0, 0);
        y.walk(0, 1);
        due.is("doubt(0)", y.doubt(0), 0);
        y.walk(0, 0);
        due.is("down(1)", y.down(1), 19);
        due.is("down(4)", y.down(4), 15);
    }

    private static void downIfAllPray(Due due) {
        due.is("down(5): nobody", Due.told("M3C05030").down(5), NONE);
        due.is("down(0): nobody", Due.told("M3C05030").down(0), NONE);
        due.is("down(5): its echo comes on the same day", Due.told("M2K050").down(5), 1);
        due.is("down(11): the fourth monk", Due.told("M2K000K000K000K110").down(11), 1);
        // Monk 0 buries monk 1, ahead of its prayer by which 2 would fall.
        PrayerTailings x = Due.told("M3C01030C02020K000K010");
        due.is("down(1)", x.down(1), 1);
        due.is("down(0)", x.down(0), 1);
        due.is("down(2)", x.down(2), NONE);
        // The other way about monk 1 would have prayed.
        PrayerTailings y = Due.told("M3C01030C02020K010K000");
        due.is("down(2)", y.down(2), 1);
        // One that is buried by then doesn't pray any more: 1 is loosened once, by the first day alone.
        PrayerTailings z = Due.told("M2C11000K000");
        due.is("down(0)", z.down(0), 1);
        due.is("down(1)", z.down(1), NONE);
    }

    private static void downNone(Due due) {
        PrayerTailings x = Due.told("M9K000");
        due.is("down(0)", x.down(0), 4);
        for (int cell = 1; cell < 12; cell++) {
            due.is("down(" + cell + ")", x.down(cell), NONE);
        }
        due.is("down(0) of a new object", new PrayerTailings().down(0), NONE);
    }

    private static void downRefused(Due due) {
        for (int cell : new int[] {-1, 12, Integer.MIN_VALUE, Integer.MAX_VALUE}) {
            due.refused("down(" + cell + ")", PsalmEdgesTest::used, x -> x.down(cell), UNKNOWN);
        }
        due.is("down(0)", Due.told("M1K000").down(0), 1);
        due.is("down(11)", Due.told("M1K110").down(11), 1);
    }

    private static void fallsTellsWhatWouldFall(Due due) {
        PrayerTailings x = Due.told("M9C00090C11090K040K100");
        due.is("falls(0)", x.falls(0), 1);
        due.is("falls(0): it has not", x.falls(0), 1);
        due.is("falls(1)", x.falls(1), 1 << 11);
        x.pray(0);
        due.is("falls(0): not what fell ahead of it", x.falls(0), 0);
        due.is("falls(1)", x.falls(1), 1 << 11);
        due.is("falls(0): all", Due.told("M1C00911C01910C02910C03910C07910C08910K000").falls(0), 4095);
        due.is("falls(0): nothing", Due.told("M9K000").falls(0), 0);
    }

    private static void fallsRefused(Due due) {
        Supplier<PrayerTailings> made = () -> {
            PrayerTailings x = Due.told("M8C05090K050K110");
            x.day();
            return x;
        };
        for (int monk : new int[] {-1, 2, 4, Integer.MIN_VALUE, Integer.MAX_VALUE}) {
            due.refused("falls(" + monk + ")", made, x -> x.falls(monk), UNKNOWN);
        }
        due.refused("falls(0) buried", made, x -> x.falls(0), LATE);
        due.is("falls(1)", made.get().falls(1), 0);
    }

    private static void psalmOfOneToEight(Due due) {
        PrayerTailings x = Due.told("M9K000K030K080K110");
        int row = 0;
        for (int n = 1; n <= 8; n++) {
            row = 10 * row + (n - 1) % 4;
            due.is("psalm(" + n + ", " + row + ")", x.psalm(n, row), NONE);
            due.is("psalm(" + n + ", " + (row / 10 * 10 + 4) + ")", x.psalm(n, row / 10 * 10 + 4), n - 1);
        }
        due.is("psalm(1, 3)", x.psalm(1, 3), NONE);
        due.is("psalm(8, 0): the fifth prayer buries", x.psalm(8, 0), 4);
        due.is("psalm(5, 0): the last one buries", x.psalm(5, 0), 4);
        due.is("psalm(4, 0)", x.psalm(4, 0), NONE);
    }

    private static void psalmRefused(Due due) {
        PrayerTailings x = Due.told("M9K000");
        int most = 1;
        for (int n = 1; n <= 8; n++) {
            most *= 10;
            due.is("psalm(" + n + ", " + (most - 1) + ")", x.psalm(n, most - 1), 0);
            due.is("psalm(" + n + ", " + most + ")", x.psalm(n, most), BAD);
            due.is("psalm(" + n + ", MAX)", x.psalm(n, Integer.MAX_VALUE), BAD);
            due.is("psalm(" + n + ", 0)", x.psalm(n, 0), n <= 4 ? NONE : 4);
            due.is("psalm(" + n + ", -1)", x.psalm(n, -1), BAD);
            due.is("psalm(" + n + ", MIN)", x.psalm(n, Integer.MIN_VALUE), BAD);
        }
        for (int n : new int[] {0, 9, 10, -1, Integer.MIN_VALUE, Integer.MAX_VALUE}) {
            due.refused("psalm(" + n + ", 0)", PsalmEdgesTest::used, y -> y.psalm(n, 0), BAD);
        }
        due.refused("psalm(1, 10)", PsalmEdgesTest::used, y -> y.psalm(1, 10), BAD);
    }

    private static void bestTellsWhatIsTaken(Due due) {
        PrayerTailings x = Due.told("M3C02530C03001C07430K030K110");
        best(due, x, 1, 9, 0);
        x.pray(0);
        due.is("about(3)", x.about(3), 9);
        due.is("best(1): nothing more, whatever was taken ahead of it", x.best(1), 0);
        due.is("best(1) of none", Due.told("M9").best(1), NONE);
        due.is("best(3) when nobody could pray so often", Due.told("M5K000").best(3), NONE);
        due.is("best(2)", Due.told("M5K000").best(2), 0);
    }

    private static void bestRefused(Due due) {
        for (int n : new int[] {0, 4, -1, 5, Integer.MIN_VALUE, Integer.MAX_VALUE}) {
            due.refused("best(" + n + ")", PsalmEdgesTest::used, x -> x.best(n), BAD);
        }
        due.is("best(4) of nobody", Due.told("M9").best(4), BAD);
    }

    private static void bestAtTellsMonks(Due due) {
        PrayerTailings x = Due.told("M3C02530C04630C11730K030K080K100K000");
        int[][] want = {{2}, {1, 2}, {0, 1, 2}};
        for (int n = 1; n <= 3; n++) {
            for (int i = 0; i < n; i++) {
                due.is("bestAt(" + n + ", " + i + ")", x.bestAt(n, i), want[n - 1][i]);
            }
            for (int i : new int[] {-1, n, n + 1, 32, Integer.MIN_VALUE, Integer.MAX_VALUE}) {
                due.is("bestAt(" + n + ", " + i + ")", x.bestAt(n, i), NONE);
            }
        }
        PrayerTailings none = Due.told("M1K000");
        for (int i = -1; i <= 3; i++) {
            due.is("bestAt(3, " + i + ") when there is no such psalm", none.bestAt(3, i), NONE);
        }
    }

    private static void bestAtRefused(Due due) {
        for (int n : new int[] {0, 4, -1, Integer.MIN_VALUE, Integer.MAX_VALUE}) {
            due.refused("bestAt(" + n + ", 0)", PsalmEdgesTest::used, x -> x.bestAt(n, 0), BAD);
            due.is("bestAt(" + n + ", -1)", used().bestAt(n, -1), BAD);
            due.is("bestAt(" + n + ", 9)", used().bestAt(n, 9), BAD);
            due.is("bestAt(" + n + ", 0) of nobody", Due.told("M9").bestAt(n, 0), BAD);
        }
    }

    /** With so many props, put where they are wanted, nothing falls; with one less something does. */
    private static void oathsIsTheFewest(Due due) {
        due.is("oaths()", Due.told("M1C05130C06020K050K061").oaths(), 8 + 7 + 3 + 3);
        PrayerTailings x = Due.told("M2K050K050");
        due.is("oaths()", x.oaths(), 2);
        x.oath(0);
        due.is("oaths()", x.oaths(), 1);
        due.is("falls by both", x.psalm(2, 1), 1);
        x.oath(0);
        due.is("oaths()", x.oaths(), 0);
        due.is("nothing falls by both", x.psalm(2, 1), NONE);
    }
}
