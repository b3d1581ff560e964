import java.util.function.IntPredicate;

/** The boundary sentences of CELLS, NEIGHBOURS and bits, and of promises 6 to 8: about, cell, monk. */
public final class AskEdgesTest {
    private static final int UNKNOWN = -1, BAD = -2, LATE = -3, FULL = -4;
    private static final int[] NUMBERS = {Integer.MIN_VALUE, -13, -12, -1, 0, 1, 2, 3, 4, 5, 6, 7, 8, 9, 10, 11, 12, 13,
        31, 32, 33, Integer.MAX_VALUE};

    public static void main(String[] args) {
        edges().run();
    }

    static Edges edges() {
        Edges all = new Edges("AskEdgesTest");
        ofTerms(all);
        ofAbout(all);
        ofCell(all);
        ofMonk(all);
        return all;
    }

    private static void ofTerms(Edges all) {
        all.stand("Terms 1", "11: four columns, three rows, row by row from the top", AskEdgesTest::cells)
            .breaks("CELLS = 12", "CELLS = 11")
            .breaksIn("isCell", "cell >= 0", "cell >= -1")
            .breaksIn("isCell", "cell >= 0", "cell > 0")
            .breaksIn("isCell", "cell < CELLS", "cell <= CELLS")
            .breaksIn("isCell", "cell < CELLS", "cell < CELLS - 1")
            .breaks("0x012, 0x025, 0x04A, 0x084,", "0x012, 0x025, 0x04A, 0x094,");
        all.stand("Terms 1", "those next to each other in a row or a column are NEIGHBOURS", AskEdgesTest::neighbours)
            .breaks("0x012, 0x025, 0x04A, 0x084,", "0x012, 0x025, 0x04A, 0x094,")
            .breaks("0x121, 0x252, 0x4A4, 0x848,", "0x129, 0x252, 0x4A4, 0x848,")
            .breaks("0x121, 0x252, 0x4A4, 0x848,", "0x121, 0x252, 0x4A4, 0x948,")
            .breaks("0x121, 0x252, 0x4A4, 0x848,", "0x121, 0x253, 0x4A4, 0x848,")
            .breaks("0x210, 0x520, 0xA40, 0x480,", "0x210, 0x520, 0xA40, 0x481,")
            .breaks("0x210, 0x520, 0xA40, 0x480,", "0x210, 0x520, 0xA40, 0x400,");
        all.stand("Terms 1", "sets of CELLS, of MONKS bits", AskEdgesTest::bits)
            .breaksIn("fell", "fallen |= due;", "fallen |= due & 2047;")
            .breaksIn("fell", "fallen |= due;", "fallen |= due & ~1;")
            .breaksIn("fell", "buried |= monksOn(due);", "buried |= monksOn(due) & 7;")
            .breaksIn("monksOn", "<< monk;", "<< monk + 1;");
    }

    private static void ofAbout(Edges all) {
        all.stand("Promise 6", "HOLD (what = 0)", AskEdgesTest::aboutHold)
            .breaksIn("about", "case 0: return now.hold;", "case 0: return trial.hold;");
        all.stand("Promise 6", "MONKS (1)", AskEdgesTest::aboutMonks)
            .breaksIn("about", "now.monks;", "Integer.bitCount(now.living());");
        all.stand("Promise 6", "THE DAY (2)", AskEdgesTest::aboutDay)
            .breaksIn("about", "now.days;", "acts;");
        all.stand("Promise 6", "what is TAKEN (3)", AskEdgesTest::aboutTaken)
            .breaksIn("about", "now.taken;", "now.oreLeft();")
            .breaksIn("fell", "taken += at(ore, cell);", "taken = at(ore, cell);");
        all.stand("Promise 6", "FALLEN ones (4: bits)", AskEdgesTest::aboutFallen)
            .breaksIn("about", "now.fallen;", "now.fallen & 2047;")
            .breaksIn("fell", "fallen |= due;", "fallen = due;");
        all.stand("Promise 6", "BURIED ones (5: bits)", AskEdgesTest::aboutBuried)
            .breaksIn("about", "now.buried;", "now.living();")
            .breaksIn("fell", "buried |= monksOn(due);", "buried = monksOn(due);");
        all.stand("Promise 6", "ORE that is left (6)", AskEdgesTest::aboutOre)
            .breaksIn("oreLeft", "cell < ore.length", "cell < ore.length - 1")
            .breaksIn("oreLeft", "int cell = 0", "int cell = 1");
        all.stand("Promise 6", "ACTS (7)", AskEdgesTest::aboutActs)
            .breaksIn("about", "return acts;", "return now.days;");
        all.stand("Promise 6", "SEEN (8)", AskEdgesTest::aboutSeen)
            .breaksIn("about", "return seen;", "return seen & 3;");
        all.stand("Promise 6", "bytes of THE TEXT (9)", AskEdgesTest::aboutText)
            .breaksIn("about", "return length;", "return length & 63;");
        all.stand("Promise 6", "BAD.", AskEdgesTest::aboutBad)
            .breaksIn("about", "default: return BAD;", "default: return UNKNOWN;")
            .breaksIn("about", "default: return BAD;", "case 10: return 0; default: return BAD;")
            .breaksIn("about", "default: return BAD;", "case -1: return 0; default: return BAD;");
    }

    private static void ofCell(Edges all) {
        all.stand("Promise 7", "Of a CELL ORE (what = 0), by how much it is LOOSE (1), PROPS (2), ECHOES (3)", AskEdgesTest::cellAmounts)
            .breaksIn("cell", "at(now.ore, cell)", "at(now.loose, cell)")
            .breaksIn("cell", "at(now.loose, cell)", "at(now.props, cell)")
            .breaksIn("cell", "at(now.props, cell)", "at(now.echoes, cell)")
            .breaksIn("cell", "at(now.echoes, cell)", "at(now.ore, cell)");
        all.stand("Promise 7", "1 if it is FALLEN (4)", AskEdgesTest::cellFallen)
            .breaksIn("cell", "? 1 : 0", "? 0 : 1")
            .breaksIn("cell", "? 1 : 0", "? 1 << cell : 0");
        all.stand("Promise 7", "who is there (5: bits; BURIED ones, too)", AskEdgesTest::cellMonks)
            .breaksIn("cell", "now.monksOn(1 << cell)", "now.monksOn(1 << cell) & now.living()")
            .breaksIn("cell", "now.monksOn(1 << cell)", "Integer.bitCount(now.monksOn(1 << cell))");
        all.stand("Promise 7", "UNKNOWN; BAD.", AskEdgesTest::cellRefused)
            .breaksIn("cell", "return UNKNOWN;", "return BAD;")
            .breaksIn("cell", "default: return BAD;", "default: return 0;")
            .breaksIn("cell", "if (!isCell(cell)) {", "if (what >= 0 && what <= 5 && !isCell(cell)) {")
            .breaksIn("cell", "default: return BAD;", "case 6: return 0; default: return BAD;")
            .breaksIn("cell", "default: return BAD;", "case -1: return 0; default: return BAD;");
    }

    private static void ofMonk(Edges all) {
        all.stand("Promise 8", "Of a MONK its CELL (what = 0), SECT (1)", AskEdgesTest::monkPlace)
            .breaksIn("monk", "now.placeOf(monk)", "now.placeOf(monk) & 7")
            .breaksIn("monk", "now.sects >> monk & 1", "now.sects & 1");
        all.stand("Promise 8", "1 if it is BURIED (2)", AskEdgesTest::monkBuried)
            .breaksIn("monk", "now.buried >> monk & 1", "now.buried >> monk")
            .breaksIn("monk", "now.buried >> monk & 1", "now.fallen >> now.placeOf(monk) & 1");
        all.stand("Promise 8",
                "how often its CELL would be LOOSE by 2 more by its PRAYER (3: 1, 2, be the CELL FALLEN or not; 0: it is BURIED)",
                AskEdgesTest::monkForce)
            .breaksIn("forceOf", "return 0;", "return 1;")
            .breaksIn("forceOf", "? 2 : 1", "? 3 : 1")
            .breaksIn("forceOf", "? 2 : 1", "? 2 : 0")
            .breaksIn("forceOf", "!has(living, monk)", "!has(living, monk) || isFallen(placeOf(monk))");
        all.stand("Promise 8", "UNKNOWN; BAD.", AskEdgesTest::monkRefused)
            .breaksIn("monk", "return UNKNOWN;", "return BAD;")
            .breaksIn("monk", "default: return BAD;", "default: return 0;")
            .breaksIn("isMonk", "monk < monks", "monk <= monks")
            .breaksIn("isMonk", "monk < monks", "monk < MONKS")
            .breaksIn("isMonk", "monk >= 0", "monk >= -1")
            .breaksIn("monk", "default: return BAD;", "case 4: return 0; default: return BAD;")
            .breaksIn("monk", "default: return BAD;", "case -1: return 0; default: return BAD;");
    }

    /** Which numbers a call takes as a cell, of those around its least and its most. */
    private static void takes(Due due, String call, int number, int answer, int refusal, IntPredicate can) {
        due.is(call + " takes " + number, answer != refusal ? 1 : 0, can.test(number) ? 1 : 0);
    }

    private static void cells(Due due) {
        for (int cell : NUMBERS) {
            PrayerTailings x = Due.told("M9K050");
            IntPredicate can = number -> number >= 0 && number <= 11;
            takes(due, "cell", cell, x.cell(cell, 0), UNKNOWN, can);
            takes(due, "walk", cell, x.walk(0, cell), UNKNOWN, can);
            takes(due, "down", cell, x.down(cell), UNKNOWN, can);
            takes(due, "see", cell, x.see(cell, 0), UNKNOWN, can);
            takes(due, "chance", cell, x.chance(cell, 0, true), UNKNOWN, can);
        }
        // To the end of a row, and down the last column.
        PrayerTailings x = Due.told("M9K000");
        for (int cell : new int[] {1, 2, 3, 7, 11, 10, 9, 8, 4, 0}) {
            due.is("walk(0, " + cell + ")", x.walk(0, cell), 0);
            due.is("monk(0, 0)", x.monk(0, 0), cell);
        }
        due.is("walk(0, 3) from 0", x.walk(0, 3), LATE);
        due.is("walk(0, 8) from 0", x.walk(0, 8), LATE);
        PrayerTailings end = Due.told("M9K030");
        due.is("walk(0, 4) from 3", end.walk(0, 4), LATE);
    }

    private static void neighbours(Due due) {
        for (int from = 0; from < 12; from++) {
            PrayerTailings prayed = Due.told("M9K" + Due.two(from) + "0");
            prayed.pray(0);
            for (int to = 0; to < 12; to++) {
                PrayerTailings x = Due.told("M9K" + Due.two(from) + "0K" + Due.two(to) + "1");
                int far = Due.far(from, to);
                due.is("walk from " + from + " to " + to, x.walk(0, to), far == 1 ? 2 : LATE);
                due.is("cell(" + to + ", 1) prayed from " + from, prayed.cell(to, 1), far == 0 ? 2 : far == 1 ? 1 : 0);
            }
        }
    }

    private static void bits(Due due) {
        PrayerTailings x = Due.told("M8C00090C11090K000K050K060K110");
        due.is("cell(0, 5)", x.cell(0, 5), 1);
        due.is("cell(11, 5)", x.cell(11, 5), 8);
        due.is("day()", x.day(), 1 + 2048);
        due.is("about(4)", x.about(4), 1 + 2048);
        due.is("about(5)", x.about(5), 1 + 8);
        due.is("walk(1, 6)", x.walk(1, 6), 4);
        due.is("cell(6, 5)", x.cell(6, 5), 2 + 4);
        PrayerTailings all = Due.told("M1C00020C01010C02010C03010C07010C08010");
        due.is("day(): all fall", all.day(), 4095);
        due.is("about(4)", all.about(4), 4095);
        PrayerTailings monks = Due.told("M8C05090K050K051K050K051");
        due.is("cell(5, 5)", monks.cell(5, 5), 15);
        due.is("day()", monks.day(), 32);
        due.is("about(5)", monks.about(5), 15);
    }

    private static void aboutHold(Due due) {
        due.is("about(0) at first", new PrayerTailings().about(0), 1);
        due.is("about(0) of M1", Due.told("M1").about(0), 1);
        due.is("about(0) of M9", Due.told("M9").about(0), 9);
    }

    private static void aboutMonks(Due due) {
        due.is("about(1) of none", Due.told("M1").about(1), 0);
        PrayerTailings x = Due.told("M8C05090K050K051K050K111");
        due.is("about(1) of four", x.about(1), 4);
        x.day();
        due.is("about(1): buried ones, too", x.about(1), 4);
    }

    private static void aboutDay(Due due) {
        PrayerTailings x = Due.told("M9K000");
        for (int day = 1; day <= 31; day++) {
            x.doubt(0);
            x.day();
            due.is("about(2)", x.about(2), day);
        }
    }

    private static void aboutTaken(Due due) {
        PrayerTailings x = Due.told("M9C00990C03890C08790K010K020");
        due.is("about(3)", x.about(3), 0);
        due.is("pray(0)", x.pray(0), 1);
        due.is("about(3)", x.about(3), 9);
        due.is("pray(1)", x.pray(1), 8);
        due.is("about(3): in all", x.about(3), 17);
        // As much as a text can tell: eight cells of nine.
        PrayerTailings all = Due.told("M1C00920C01910C02910C03910C07910C08910C11910C10910");
        due.is("day()", all.day(), 4095);
        due.is("about(3)", all.about(3), 72);
        due.is("about(6)", all.about(6), 0);
    }

    private static void aboutFallen(Due due) {
        PrayerTailings x = Due.told("M9C00090C11090K010K100");
        due.is("about(4)", x.about(4), 0);
        x.pray(0);
        due.is("about(4)", x.about(4), 1);
        x.pray(1);
        due.is("about(4): in all", x.about(4), 1 + 2048);
    }

    private static void aboutBuried(Due due) {
        PrayerTailings x = Due.told("M9C00090C11090K000K010K100K110");
        due.is("about(5)", x.about(5), 0);
        x.pray(1);
        due.is("about(5)", x.about(5), 1);
        x.pray(2);
        due.is("about(5): in all", x.about(5), 1 + 8);
    }

    private static void aboutOre(Due due) {
        due.is("about(6) of none", Due.told("M9").about(6), 0);
        due.is("about(6)", Due.told("M9C00900C01900C02900C03900C08900C09900C10900C11900").about(6), 72);
        PrayerTailings x = Due.told("M8C00190C11200");
        due.is("about(6)", x.about(6), 3);
        x.day();
        due.is("about(6) behind a fall", x.about(6), 2);
    }

    private static void aboutActs(Due due) {
        PrayerTailings x = Due.told("M9K000");
        for (int act = 1; act <= 16; act++) {
            x.doubt(0);
            due.is("about(7)", x.about(7), Math.min(act, 14));
        }
    }

    private static void aboutSeen(Due due) {
        PrayerTailings x = new PrayerTailings();
        for (int i = 1; i <= 7; i++) {
            due.is("see(0, 0)", x.see(0, 0), i <= 6 ? i : FULL);
            due.is("about(8)", x.about(8), Math.min(i, 6));
        }
    }

    private static void aboutText(Due due) {
        PrayerTailings x = new PrayerTailings();
        for (int i = 1; i <= 10; i++) {
            x.write(8, 0);
            due.is("about(9)", x.about(9), Math.min(8 * i, 72));
        }
    }

    private static void aboutBad(Due due) {
        for (int what : NUMBERS) {
            int answer = Due.told("M9").about(what);
            due.is("about(" + what + ")", answer == BAD ? 1 : 0, what < 0 || what > 9 ? 1 : 0);
        }
        due.refused("about(10)", () -> Due.told("M9K050"), x -> x.about(10), BAD);
        due.refused("about(-1)", () -> Due.told("M9K050"), x -> x.about(-1), BAD);
    }

    private static void cellAmounts(Due due) {
        PrayerTailings x = Due.told("M9C00123C11987K000");
        x.pray(0);
        int[] first = {1, 4, 3, 1};
        int[] last = {9, 8, 7, 0};
        for (int what = 0; what < 4; what++) {
            due.is("cell(0, " + what + ")", x.cell(0, what), first[what]);
            due.is("cell(11, " + what + ")", x.cell(11, what), last[what]);
            due.is("cell(5, " + what + ")", x.cell(5, what), 0);
        }
    }

    private static void cellFallen(Due due) {
        PrayerTailings x = Due.told("M8C00090C11090");
        due.is("cell(11, 4): too loose, but up", x.cell(11, 4), 0);
        x.day();
        for (int cell = 0; cell < 12; cell++) {
            due.is("cell(" + cell + ", 4)", x.cell(cell, 4), cell == 0 || cell == 11 ? 1 : 0);
        }
    }

    private static void cellMonks(Due due) {
        PrayerTailings x = Due.told("M8C05090K050K061K050K111");
        due.is("cell(5, 5)", x.cell(5, 5), 5);
        due.is("cell(0, 5): nobody", x.cell(0, 5), 0);
        x.day();
        due.is("cell(5, 5): buried", x.cell(5, 5), 5);
        x.walk(1, 5);
        due.is("cell(5, 5): buried and not", x.cell(5, 5), 7);
        due.is("cell(6, 5)", x.cell(6, 5), 0);
        due.is("cell(11, 5)", x.cell(11, 5), 8);
    }

    private static void cellRefused(Due due) {
        PrayerTailings x = Due.told("M8K000K110");
        for (int what = 0; what <= 5; what++) {
            due.is("cell(-1, " + what + ")", x.cell(-1, what), UNKNOWN);
            due.is("cell(12, " + what + ")", x.cell(12, what), UNKNOWN);
        }
        for (int what : new int[] {-1, 6, Integer.MIN_VALUE, Integer.MAX_VALUE}) {
            due.is("cell(0, " + what + ")", x.cell(0, what), BAD);
            due.is("cell(11, " + what + ")", x.cell(11, what), BAD);
            due.is("cell(12, " + what + "): told first", x.cell(12, what), UNKNOWN);
            due.is("cell(-1, " + what + "): told first", x.cell(-1, what), UNKNOWN);
        }
    }

    private static void monkPlace(Due due) {
        PrayerTailings x = Due.told("M9K000K111K030K081");
        int[] places = {0, 11, 3, 8};
        for (int monk = 0; monk < 4; monk++) {
            due.is("monk(" + monk + ", 0)", x.monk(monk, 0), places[monk]);
            due.is("monk(" + monk + ", 1)", x.monk(monk, 1), monk % 2);
        }
        x.walk(1, 10);
        due.is("monk(1, 0)", x.monk(1, 0), 10);
    }

    private static void monkBuried(Due due) {
        PrayerTailings x = Due.told("M8C05090K050K060K111K050");
        for (int monk = 0; monk < 4; monk++) {
            due.is("monk(" + monk + ", 2)", x.monk(monk, 2), 0);
        }
        x.day();
        x.walk(1, 5);
        int[] buried = {1, 0, 0, 1};
        for (int monk = 0; monk < 4; monk++) {
            due.is("monk(" + monk + ", 2)", x.monk(monk, 2), buried[monk]);
        }
    }

    private static void monkForce(Due due) {
        PrayerTailings x = Due.told("M8C05090K050K060K021K110");
        due.is("monk(0, 3): the other sect is two cells off", x.monk(0, 3), 1);
        due.is("monk(1, 3)", x.monk(1, 3), 2);
        due.is("monk(2, 3)", x.monk(2, 3), 2);
        due.is("monk(3, 3)", x.monk(3, 3), 1);
        x.day();
        due.is("monk(0, 3): buried", x.monk(0, 3), 0);
        x.walk(1, 5);
        due.is("monk(1, 3) on a fallen cell", x.monk(1, 3), 1);
        x.walk(2, 6);
        due.is("monk(1, 3) on a fallen cell", x.monk(1, 3), 2);
        due.is("monk(2, 3)", x.monk(2, 3), 2);
        due.is("monk(0, 3): buried, with the other sect near", x.monk(0, 3), 0);
        // By so much its cell is looser then.
        due.is("pray(2)", x.pray(2), 0);
        due.is("cell(6, 1)", x.cell(6, 1), 1 + 4);
    }

    private static void monkRefused(Due due) {
        PrayerTailings x = Due.told("M8K000K110");
        for (int what = 0; what <= 3; what++) {
            due.is("monk(-1, " + what + ")", x.monk(-1, what), UNKNOWN);
            due.is("monk(2, " + what + ")", x.monk(2, what), UNKNOWN);
            due.is("monk(4, " + what + ")", x.monk(4, what), UNKNOWN);
        }
        for (int what : new int[] {-1, 4, Integer.MIN_VALUE, Integer.MAX_VALUE}) {
            due.is("monk(0, " + what + ")", x.monk(0, what), BAD);
            due.is("monk(1, " + what + ")", x.monk(1, what), BAD);
            due.is("monk(2, " + what + "): told first", x.monk(2, what), UNKNOWN);
            due.is("monk(-1, " + what + "): told first", x.monk(-1, what), UNKNOWN);
        }
        for (int monk : NUMBERS) {
            due.is("monk(" + monk + ", 2)", x.monk(monk, 2), monk == 0 || monk == 1 ? 0 : UNKNOWN);
        }
        PrayerTailings four = Due.told("M8K000K000K000K000");
        due.is("monk(3, 0)", four.monk(3, 0), 0);
        due.is("monk(4, 0)", four.monk(4, 0), UNKNOWN);
    }
}
