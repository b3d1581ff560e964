import java.util.function.Supplier;

/** The boundary sentences of THE TEXT and of a new object: Terms 1, promises 1 to 5. */
public final class TextEdgesTest {
    private static final int BAD = -2, LATE = -3, FULL = -4, NONE = -9;
    private static final String EIGHT_CELLS = "C00000C01000C02000C03000C04000C05000C06000C07000";
    private static final String FOUR_MONKS = "K000K000K001K111";

    public static void main(String[] args) {
        edges().run();
    }

    static Edges edges() {
        Edges all = new Edges("TextEdgesTest");
        ofTerms(all);
        ofFaults(all);
        ofNewMines(all);
        ofWrite(all);
        ofMine(all);
        return all;
    }

    private static void ofTerms(Edges all) {
        all.stand("Terms 1", "MONKS are 0, 1, .. (4 at most)", TextEdgesTest::fourMonks)
            .breaksIn("acceptsPart", "draft.monks < MONKS", "draft.monks <= MONKS")
            .breaksIn("acceptsPart", "draft.monks < MONKS", "draft.monks < MONKS - 1");
        all.stand("Terms 1", "THE TEXT is bytes (72 at most)", TextEdgesTest::bytesOfTheText)
            .breaks("TEXT_MOST = 72", "TEXT_MOST = 71")
            .breaks("TEXT_MOST = 72", "TEXT_MOST = 73")
            .breaksIn("write", "& 255", "& 127")
            .breaksIn("write", "& 255", "& 511");
        all.stand("Terms 1", "A MINE is a TEXT: M, HOLD (1 .. 9), then PARTS, none or more", TextEdgesTest::hold)
            .breaksIn("acceptsHold", "sign < '1'", "sign < '0'")
            .breaksIn("acceptsHold", "sign < '1'", "sign < '2'")
            .breaksIn("acceptsHold", "sign > '9'", "sign > ':'")
            .breaksIn("acceptsHold", "sign > '9'", "sign > '8'")
            .breaksIn("accepts", "sign == 'M'", "sign >= 'M'")
            .breaksIn("accepts", "sign == 'M'", "sign <= 'M'")
            .breaksIn("mayEnd", "due == PART", "due == PART && told != 0");
        all.stand("Terms 1", "Cccolp a CELL cc (00 .. 11;", TextEdgesTest::cellsOfParts)
            .breaksIn("isCell", "cell >= 0", "cell > 0")
            .breaksIn("isCell", "cell < CELLS", "cell < CELLS - 1")
            .breaksIn("isCell", "cell < CELLS", "cell <= CELLS")
            .breaksIn("acceptsTens", ": 0;", ": 1;")
            .breaksIn("acceptsOnes", "ones >= 0", "ones >= -1")
            .breaksIn("acceptsOnes", "ones <= 9", "ones <= 10");
        all.stand("Terms 1", "none twice", TextEdgesTest::noCellTwice)
            .breaksIn("acceptsOnes", "!has(barred, place)", "true")
            .breaksIn("acceptsTens", "(cells & ~barred) != 0", "cells != 0")
            .breaksIn("tell", "told |= 1 << place", "told = 1 << place")
            .breaks("FROM_TEN = 0xC00", "FROM_TEN = 0x800")
            .breaks("FROM_TEN = 0xC00", "FROM_TEN = 0x400")
            .breaksIn("accepts", "case MONK_ONES: return acceptsOnes(sign - '0', 0)",
                "case MONK_ONES: return acceptsOnes(sign - '0', told)");
        all.stand("Terms 1", "8 at most", TextEdgesTest::eightCells)
            .breaks("TOLD_MOST = 8", "TOLD_MOST = 7")
            .breaks("TOLD_MOST = 8", "TOLD_MOST = 9");
        all.stand("Terms 1", "with ORE o, LOOSE by l, with p PROPS", TextEdgesTest::amountsInTheirOrder)
            .breaksIn("accepts", "case CELL_ORE: return acceptsAmount(draft.ore,", "case CELL_ORE: return acceptsAmount(draft.loose,")
            .breaksIn("accepts", "case CELL_LOOSE: return acceptsAmount(draft.loose,", "case CELL_LOOSE: return acceptsAmount(draft.props,")
            .breaksIn("accepts", "case CELL_PROPS: return acceptsAmount(draft.props,", "case CELL_PROPS: return acceptsAmount(draft.echoes,");
        all.stand("Terms 1", "(0 .. 9 each;", TextEdgesTest::amounts)
            .breaksIn("acceptsAmount", "amount < 0", "amount < -1")
            .breaksIn("acceptsAmount", "amount < 0", "amount < 1")
            .breaksIn("acceptsAmount", "amount > 9", "amount > 10")
            .breaksIn("acceptsAmount", "amount > 9", "amount > 8");
        all.stand("Terms 1", "CELLS that are not told have none of these", TextEdgesTest::cellsNotTold)
            .breaksIn("clear", "empty(cell);", "")
            .breaksIn("take", "System.arraycopy(other.props, 0, props, 0, CELLS);", "");
        all.stand("Terms 1", "Kccs a MONK (numbered as they are told) on CELL cc, of SECT s (0, 1)", TextEdgesTest::monksOfParts)
            .breaksIn("acceptsSect", "sect != 0 && sect != 1", "sect < 0 || sect > 2")
            .breaksIn("acceptsSect", "sect != 0 && sect != 1", "sect < -1 || sect > 1")
            .breaksIn("acceptsSect", "sect != 0 && sect != 1", "sect != 0")
            .breaksIn("acceptsSect", "sect != 0 && sect != 1", "sect != 1")
            .breaksIn("addMonk", "put(places, monks, cell)", "put(places, MONKS - 1 - monks, cell)")
            .breaksIn("clear", "sects = 0;", "")
            .breaksIn("clear", "monks = 0;", "");
    }

    private static void ofFaults(Edges all) {
        all.stand("Terms 1", "FAULT: the place (from 0) of the first byte by which THE TEXT can be no MINE, whatever came behind it",
                TextEdgesTest::firstByteOfAFault)
            .breaksIn("readText", "return i;", "return i + 1;")
            .breaksIn("acceptsTens", "(cells & ~barred) != 0", "cells != 0");
        all.stand("Terms 1", "(its length set aside)", TextEdgesTest::lengthSetAside)
            .breaksIn("readText", "reader.start();", "reader.start(); if (length > 66) { return length; }")
            .breaksIn("readText", "reader.start();", "reader.start(); if (length == TEXT_MOST) { return 0; }");
        all.stand("Terms 1", "its length, if it is only not at its end", TextEdgesTest::lengthOfATextCutOff)
            .breaksIn("mayEnd", "due == PART", "due == PART || due == CELL_PROPS")
            .breaksIn("mayEnd", "due == PART", "due == PART || due == HEAD")
            .breaksIn("readText", "NONE : length", "NONE : length - 1");
        all.stand("Terms 1", "NONE: none.", TextEdgesTest::noFault)
            .breaksIn("readText", "NONE : length", "length : length");
        all.stand("Promise 4", "FAULT; NONE.", TextEdgesTest::faultChangesNothing)
            .breaksIn("readText", "NONE : length", "LATE : length")
            .breaksIn("fault", "return readText();", "int found = readText(); length = 0; return found;")
            .breaksIn("fault", "return readText();", "int found = readText(); now.take(reader.draft); return found;");
    }

    private static void ofNewMines(Edges all) {
        all.stand("Terms 1", "At first HOLD is 1, there is nothing.", TextEdgesTest::atFirst)
            .breaks("int hold = 1;", "int hold;")
            .breaks("int monks;", "int monks = 1;");
        all.stand("Terms 1", "THE DAY is 0 at first; no CELL is FALLEN, no MONK BURIED, nothing TAKEN, no ECHO.",
                TextEdgesTest::atFirstOfAMine)
            .breaksIn("take", "days = other.days;", "")
            .breaksIn("take", "fallen = other.fallen;", "")
            .breaksIn("take", "buried = other.buried;", "")
            .breaksIn("take", "taken = other.taken;", "")
            .breaksIn("take", "System.arraycopy(other.echoes, 0, echoes, 0, CELLS);", "");
        all.stand("Promise 1", "Nothing.", TextEdgesTest::newObject)
            .breaks("private int length;", "private int length = 1;")
            .breaks("private int acts;", "private int acts = 1;")
            .breaks("private int kept;", "private int kept = 1;")
            .breaks("private int seen;", "private int seen = 1;")
            .breaks("private long seedNow;", "private long seedNow = 1;");
    }

    private static void ofWrite(Edges all) {
        all.stand("Promise 2", "n bytes (1 .. 8) of v", TextEdgesTest::bytesOfAWrite)
            .breaksIn("write", "n < 1", "n < 0")
            .breaksIn("write", "n < 1", "n < 2")
            .breaksIn("write", "n > WRITE_MOST", "n > WRITE_MOST + 1")
            .breaksIn("write", "n > WRITE_MOST", "n >= WRITE_MOST");
        all.stand("Promise 2", "the lowest n, the highest of these first, come behind THE TEXT: how long it is.",
                TextEdgesTest::lowestBytesHighestFirst)
            .breaksIn("write", "v >>> 8 * left", "v >>> 8 * (n - 1 - left)")
            .breaksIn("write", "v >>> 8 * left", "v >>> 8 * (8 - n + left)")
            .breaksIn("write", "put(text, length,", "put(text, n - 1 - left,")
            .breaksIn("write", "return length;", "return n;");
        all.stand("Promise 2", "BAD;", TextEdgesTest::badWrite)
            .breaksIn("write", "n < 1 ||", "")
            .breaksIn("write", "n < 1 || n > WRITE_MOST", "n < 1 || n > WRITE_MOST && length + n > TEXT_MOST")
            .breaksIn("write", "return BAD;", "return FULL;");
        all.stand("Promise 2", "FULL: it would be longer than 72 (nothing comes).", TextEdgesTest::fullText)
            .breaksIn("write", "length + n > TEXT_MOST", "length + n >= TEXT_MOST")
            .breaksIn("write", "length + n > TEXT_MOST", "length >= TEXT_MOST")
            .breaksIn("write", "return FULL;", "length = TEXT_MOST; return FULL;")
            .breaksIn("write", "return FULL;", "put(text, length, (int) v); return length < TEXT_MOST ? ++length : FULL;");
        all.stand("Promise 3", "THE TEXT is empty: how long it was.", TextEdgesTest::wipe)
            .breaksIn("wipe", "length = 0;", "")
            .breaksIn("wipe", "return was;", "return length;")
            .breaksIn("wipe", "length = 0;", "length = was - 1;");
    }

    private static void ofMine(Edges all) {
        all.stand("Promise 5", "THE TEXT is THE MINE", TextEdgesTest::mineIsTheText)
            .breaksIn("mine", "now.take(reader.draft);", "")
            .breaksIn("mine", "now.take(reader.draft);", "if (now.monks == 0) { now.take(reader.draft); }")
            .breaksIn("take", "hold = other.hold;", "")
            .breaksIn("start", "draft.clear();", "");
        all.stand("Promise 5", "THE TEXT itself stays;", TextEdgesTest::mineLeavesTheText)
            .breaksIn("mine", "acts = 0;", "acts = 0; length = 0;");
        all.stand("Promise 5", "no ACTS;", TextEdgesTest::mineHasNoActs)
            .breaksIn("mine", "acts = 0;", "");
        all.stand("Promise 5", "what was kept is gone;", TextEdgesTest::mineLetsGoWhatWasKept)
            .breaksIn("mine", "kept = 0;", "")
            .breaksIn("mine", "kept = 0;", "kept &= 1;")
            .breaksIn("mine", "kept = 0;", "kept &= 2;");
        all.stand("Promise 5", "SEEN, THE SEED stay)", TextEdgesTest::mineLeavesSeenAndSeed)
            .breaksIn("mine", "acts = 0;", "acts = 0; seen = 0;")
            .breaksIn("mine", "acts = 0;", "acts = 0; seedNow = 0;");
        all.stand("Promise 5", "how many MONKS.", TextEdgesTest::mineTellsMonks)
            .breaksIn("mine", "return now.monks;", "return now.monks - 1;");
        all.stand("Promise 5", "LATE: a FAULT.", TextEdgesTest::mineOfAFault)
            .breaksIn("mine", "readText() != NONE", "readText() == 0")
            .breaksIn("mine", "readText() != NONE", "readText() != NONE && readText() != length")
            .breaksIn("mine", "readText() != NONE", "readText() == length")
            .breaksIn("mine", "return LATE;", "acts = 0; return LATE;")
            .breaksIn("mine", "return LATE;", "now.take(reader.draft); return LATE;");
    }

    private static PrayerTailings written(String text) {
        PrayerTailings x = new PrayerTailings();
        Due.write(x, text);
        return x;
    }

    private static void fault(Due due, String text, int want) {
        due.is("fault() of " + text, written(text).fault(), want);
    }

    private static void fourMonks(Due due) {
        fault(due, "M1" + FOUR_MONKS, NONE);
        fault(due, "M1" + FOUR_MONKS + "K", 18);
        fault(due, "M1" + FOUR_MONKS + "K000", 18);
        fault(due, "M1" + FOUR_MONKS + "C", 19);
        fault(due, "M1K000C05000K000C06000K001K111C07000K", 36);
        PrayerTailings x = Due.told("M1" + FOUR_MONKS);
        due.is("about(1)", x.about(1), 4);
        due.is("monk(3, 0)", x.monk(3, 0), 11);
        due.is("monk(4, 0)", x.monk(4, 0), -1);
    }

    private static void bytesOfTheText(Due due) {
        PrayerTailings x = new PrayerTailings();
        for (int i = 1; i <= 72; i++) {
            due.is("write(1)", x.write(1, i == 1 ? 'M' : '1'), i);
        }
        due.is("write(1) at 72", x.write(1, '1'), FULL);
        due.is("about(9)", x.about(9), 72);
        // A byte is one of 256: with its highest bit set an M is no M, but what stands above it is cut off.
        fault(due, "\u00CD1", 0);
        PrayerTailings cut = new PrayerTailings();
        cut.write(1, 0x14D);
        due.is("write(1, 0x131)", cut.write(1, 0x131), 2);
        due.is("fault()", cut.fault(), NONE);
    }

    private static void hold(Due due) {
        for (int sign = 0; sign < 256; sign++) {
            boolean can = sign >= '1' && sign <= '9';
            fault(due, "M" + (char) sign, can ? NONE : 1);
            fault(due, "" + (char) sign, sign == 'M' ? 1 : 0);
        }
        for (int hold = 1; hold <= 9; hold++) {
            PrayerTailings x = written("M" + hold);
            due.is("mine() without parts", x.mine(), 0);
            due.is("about(0)", x.about(0), hold);
        }
        fault(due, "M1" + EIGHT_CELLS + FOUR_MONKS, NONE);
        fault(due, "M1" + FOUR_MONKS + EIGHT_CELLS, NONE);
        for (int sign = 0; sign < 256; sign++) {
            fault(due, "M1" + (char) sign, sign == 'C' || sign == 'K' ? 3 : 2);
        }
    }

    private static void cellsOfParts(Due due) {
        for (int sign = 0; sign < 256; sign++) {
            char s = (char) sign;
            boolean figure = sign >= '0' && sign <= '9';
            fault(due, "M1C" + s, sign == '0' || sign == '1' ? 4 : 3);
            fault(due, "M1C0" + s, figure ? 5 : 4);
            fault(due, "M1C1" + s, sign == '0' || sign == '1' ? 5 : 4);
            fault(due, "M1K" + s, sign == '0' || sign == '1' ? 4 : 3);
            fault(due, "M1K0" + s, figure ? 5 : 4);
            fault(due, "M1K1" + s, sign == '0' || sign == '1' ? 5 : 4);
        }
        for (int cell = 0; cell < 12; cell++) {
            PrayerTailings x = Due.told("M1C" + Due.two(cell) + "123");
            for (int other = 0; other < 12; other++) {
                due.is("cell(" + other + ", 0)", x.cell(other, 0), other == cell ? 1 : 0);
            }
        }
    }

    private static void noCellTwice(Due due) {
        for (int cell = 0; cell < 12; cell++) {
            String part = "C" + Due.two(cell) + "000";
            fault(due, "M1" + part + part, 10);
            fault(due, "M1" + part + (cell == 3 ? "C04000" : "C03000") + part, 16);
        }
        // When both 10 and 11 are told, no cell that begins by 1 is left.
        fault(due, "M1C10000C11000C1", 15);
        fault(due, "M1C10000C11000C0", 16);
        fault(due, "M1C10000C09000C1", 16);
        // Monks may stand where others do, and where a cell was told.
        fault(due, "M1C05000K050K050K051", NONE);
        fault(due, "M1C10000C11000K100K110", NONE);
    }

    private static void eightCells(Due due) {
        fault(due, "M1" + EIGHT_CELLS.substring(0, 42), NONE);
        fault(due, "M1" + EIGHT_CELLS, NONE);
        fault(due, "M1" + EIGHT_CELLS + "C", 50);
        fault(due, "M1" + EIGHT_CELLS + "C08000", 50);
        fault(due, "M1K000" + EIGHT_CELLS + "K000C", 58);
        fault(due, "M1" + EIGHT_CELLS + "K", 51);
    }

    private static void amountsInTheirOrder(Due due) {
        PrayerTailings x = Due.told("M1C05123C06789K060");
        int[][] want = {{5, 1, 2, 3}, {6, 7, 8, 9}, {7, 0, 0, 0}};
        for (int[] cell : want) {
            for (int what = 0; what < 3; what++) {
                due.is("cell(" + cell[0] + ", " + what + ")", x.cell(cell[0], what), cell[what + 1]);
            }
            due.is("cell(" + cell[0] + ", 3): no echoes", x.cell(cell[0], 3), 0);
        }
    }

    private static void amounts(Due due) {
        for (int sign = 0; sign < 256; sign++) {
            boolean figure = sign >= '0' && sign <= '9';
            fault(due, "M1C05" + (char) sign, figure ? 6 : 5);
            fault(due, "M1C050" + (char) sign, figure ? 7 : 6);
            fault(due, "M1C0500" + (char) sign, figure ? NONE : 7);
        }
        for (int amount = 0; amount <= 9; amount++) {
            PrayerTailings x = Due.told("M1C05" + amount + (9 - amount) + amount);
            due.is("cell(5, 0)", x.cell(5, 0), amount);
            due.is("cell(5, 1)", x.cell(5, 1), 9 - amount);
            due.is("cell(5, 2)", x.cell(5, 2), amount);
        }
    }

    private static void cellsNotTold(Due due) {
        PrayerTailings x = Due.told("M1C05999C11999");
        noneBut(due, x, 5, 11);
        x.wipe();
        Due.write(x, "M1C00999");
        due.is("mine()", x.mine(), 0);
        noneBut(due, x, 0, 0);
    }

    private static void noneBut(Due due, PrayerTailings x, int one, int other) {
        for (int cell = 0; cell < 12; cell++) {
            for (int what = 0; what < 3; what++) {
                due.is("cell(" + cell + ", " + what + ")", x.cell(cell, what), cell == one || cell == other ? 9 : 0);
            }
        }
    }

    private static void monksOfParts(Due due) {
        for (int sign = 0; sign < 256; sign++) {
            fault(due, "M1K11" + (char) sign, sign == '0' || sign == '1' ? NONE : 5);
        }
        PrayerTailings x = Due.told("M1K110C00111K001K030K041");
        int[][] want = {{11, 0}, {0, 1}, {3, 0}, {4, 1}};
        for (int monk = 0; monk < 4; monk++) {
            due.is("monk(" + monk + ", 0)", x.monk(monk, 0), want[monk][0]);
            due.is("monk(" + monk + ", 1)", x.monk(monk, 1), want[monk][1]);
        }
        // Those of a text that was told ahead are gone.
        x.wipe();
        Due.write(x, "M1K110K000K030");
        due.is("mine()", x.mine(), 3);
        for (int monk = 0; monk < 3; monk++) {
            due.is("monk(" + monk + ", 1)", x.monk(monk, 1), 0);
        }
        due.is("monk(3, 1)", x.monk(3, 1), -1);
    }

    private static void firstByteOfAFault(Due due) {
        fault(due, "X", 0);
        fault(due, "XM1", 0);
        fault(due, "MXX", 1);
        fault(due, "M1XC05X", 2);
        // The fault is the same, whatever comes behind it; ahead of it there is none but that of the end.
        String text = "M3C05123K051C05000K19XM";
        for (int length = 15; length <= text.length(); length++) {
            fault(due, text.substring(0, length), 14);
        }
        for (int length = 0; length < 15; length++) {
            fault(due, text.substring(0, length), length == 2 || length == 8 || length == 12 ? NONE : length);
        }
        // By C1 no mine can come any more when 10 and 11 are told.
        fault(due, "M1C11000C10000C12", 15);
    }

    private static void lengthSetAside(Due due) {
        String most = "M9" + EIGHT_CELLS + FOUR_MONKS;
        due.is("the longest mine", written(most).about(9), 66);
        fault(due, most, NONE);
        fault(due, most + "C", 66);
        fault(due, most + "K", 66);
        fault(due, most + "C08000", 66);
        // A text that is full is no fault by that, nor is the byte with which it became so.
        fault(due, "X" + "1".repeat(71), 0);
        fault(due, "M1" + "K000".repeat(4) + "K".repeat(54), 18);
    }

    private static void lengthOfATextCutOff(Due due) {
        String text = "M9C11999K111";
        for (int length = 0; length <= text.length(); length++) {
            boolean ends = length == 2 || length == 8 || length == 12;
            fault(due, text.substring(0, length), ends ? NONE : length);
        }
        fault(due, "M1" + EIGHT_CELLS + FOUR_MONKS.substring(0, 15), 65);
    }

    private static void noFault(Due due) {
        fault(due, "M1", NONE);
        fault(due, "M1C00000", NONE);
        fault(due, "M1K000", NONE);
        due.is("NONE", PrayerTailings.NONE, -9);
    }

    private static void faultChangesNothing(Due due) {
        Supplier<PrayerTailings> made = () -> {
            PrayerTailings x = Due.told("M3C05123K050");
            x.wipe();
            Due.write(x, "M5C05321");
            return x;
        };
        due.is("fault()", made.get().fault(), NONE);
        due.changesNothing("fault()", made, PrayerTailings::fault);
        due.changesNothing("fault() of a fault", () -> {
            PrayerTailings x = made.get();
            x.write(1, 'X');
            return x;
        }, PrayerTailings::fault);
    }

    private static void atFirst(Due due) {
        PrayerTailings x = new PrayerTailings();
        due.is("about(0)", x.about(0), 1);
        due.is("about(1)", x.about(1), 0);
        due.is("about(6)", x.about(6), 0);
        due.is("monk(0, 0)", x.monk(0, 0), -1);
        for (int cell = 0; cell < 12; cell++) {
            for (int what = 0; what < 6; what++) {
                due.is("cell(" + cell + ", " + what + ")", x.cell(cell, what), 0);
            }
        }
    }

    /** Behind a fall and two days the same text is told anew. */
    private static void atFirstOfAMine(Due due) {
        PrayerTailings x = Due.told("M8C05390K050K110");
        x.pray(1);
        x.day();
        x.day();
        x.pray(1);
        due.is("about(2)", x.about(2), 2);
        due.is("about(3)", x.about(3), 3);
        due.is("about(4)", x.about(4), 32);
        due.is("about(5)", x.about(5), 1);
        due.is("cell(11, 3)", x.cell(11, 3), 1);
        due.is("mine()", x.mine(), 2);
        for (int what = 2; what <= 5; what++) {
            due.is("about(" + what + ")", x.about(what), 0);
        }
        for (int cell = 0; cell < 12; cell++) {
            due.is("cell(" + cell + ", 3)", x.cell(cell, 3), 0);
            due.is("cell(" + cell + ", 4)", x.cell(cell, 4), 0);
        }
        due.is("monk(0, 2)", x.monk(0, 2), 0);
    }

    private static void newObject(Due due) {
        PrayerTailings x = new PrayerTailings();
        for (int what = 0; what < 10; what++) {
            due.is("about(" + what + ")", x.about(what), what == 0 ? 1 : 0);
        }
        due.is("fault()", x.fault(), 0);
        due.is("silent(0)", x.silent(0), 1);
        due.is("silent(1)", x.silent(1), 0);
        due.is("undo()", x.undo(), LATE);
        due.is("again(0)", x.again(0), LATE);
        due.is("again(1)", x.again(1), LATE);
        due.is("unsee()", x.unsee(), 0);
        due.is("wipe()", x.wipe(), 0);
        due.is("seed(0)", x.seed(0), 0);
        due.is("day()", x.day(), 0);
        due.is("mine()", x.mine(), LATE);
    }

    private static void bytesOfAWrite(Due due) {
        for (int n = -2; n <= 10; n++) {
            due.is("write(" + n + ")", new PrayerTailings().write(n, 'M'), n >= 1 && n <= 8 ? n : BAD);
        }
        due.is("write(MIN)", new PrayerTailings().write(Integer.MIN_VALUE, 'M'), BAD);
        due.is("write(MAX)", new PrayerTailings().write(Integer.MAX_VALUE, 'M'), BAD);
    }

    private static void lowestBytesHighestFirst(Due due) {
        PrayerTailings x = new PrayerTailings();
        due.is("write(1)", x.write(1, 0x3131313131314B4DL), 1);
        due.is("write(8)", x.write(8, 0x374B3031304B3131L), 9);
        due.is("write(1)", x.write(1, '1'), 10);
        due.is("fault()", x.fault(), NONE);
        due.is("mine()", x.mine(), 2);
        due.is("about(0)", x.about(0), 7);
        due.is("monk(0, 0)", x.monk(0, 0), 1);
        due.is("monk(1, 0)", x.monk(1, 0), 11);
        // The highest byte of eight may have its highest bit set.
        PrayerTailings y = new PrayerTailings();
        due.is("write(8, -1)", y.write(8, -1), 8);
        due.is("fault()", y.fault(), 0);
        PrayerTailings z = new PrayerTailings();
        due.is("write(2)", z.write(2, 0xFFFFFFFFFFFF4D39L), 2);
        due.is("fault()", z.fault(), NONE);
    }

    private static void badWrite(Due due) {
        Supplier<PrayerTailings> made = () -> written("M1K050");
        for (int n : new int[] {0, -1, 9, Integer.MIN_VALUE, Integer.MAX_VALUE}) {
            due.refused("write(" + n + ")", made, x -> x.write(n, 0x4B303530), BAD);
        }
        // It is bad, too, when the text is full.
        due.refused("write(9) at 72", () -> written("1".repeat(72)), x -> x.write(9, 0), BAD);
        due.refused("write(0) at 72", () -> written("1".repeat(72)), x -> x.write(0, 0), BAD);
    }

    private static void fullText(Due due) {
        for (int length = 64; length <= 72; length++) {
            for (int n = 1; n <= 8; n++) {
                PrayerTailings x = written("1".repeat(length));
                int want = length + n <= 72 ? length + n : FULL;
                due.is("write(" + n + ") at " + length, x.write(n, 0), want);
                due.is("about(9)", x.about(9), want == FULL ? length : want);
            }
        }
        // Nothing comes: what is written next stands where the text ended.
        String most = "M1" + EIGHT_CELLS + FOUR_MONKS;
        PrayerTailings x = written(most);
        due.is("write(7) at 66", x.write(7, 0), FULL);
        due.is("fault()", x.fault(), NONE);
        due.is("about(9)", x.about(9), 66);
        due.is("mine()", x.mine(), 4);
    }

    private static void wipe(Due due) {
        due.is("wipe() of nothing", new PrayerTailings().wipe(), 0);
        for (int length : new int[] {1, 8, 71, 72}) {
            PrayerTailings x = written("1".repeat(length));
            due.is("wipe() of " + length, x.wipe(), length);
            due.is("about(9)", x.about(9), 0);
            due.is("fault()", x.fault(), 0);
            due.is("wipe()", x.wipe(), 0);
            due.is("write(2)", x.write(2, 'M' << 8 | '1'), 2);
            due.is("fault()", x.fault(), NONE);
        }
    }

    /** Told anew a mine is just as it is in a new object, whatever was done in the one ahead of it. */
    private static void mineIsTheText(Due due) {
        String[] texts = {"M2C05123C00910K050K061K110", "M9", "M5C11999K000K111K051K081", "M1K110"};
        PrayerTailings x = new PrayerTailings();
        for (String text : texts) {
            PrayerTailings fresh = Due.told(text);
            x.wipe();
            Due.write(x, text);
            due.is("mine() of " + text, x.mine(), fresh.about(1));
            due.same(text, Due.look(x), Due.look(fresh));
            due.is("about(0) of " + text, x.about(0), text.charAt(1) - '0');
            x.pray(0);
            x.pray(1);
            x.oath(2);
            x.day();
        }
        due.is("mine() of the same text", x.mine(), 1);
        due.is("about(2)", x.about(2), 0);
        due.is("cell(11, 1)", x.cell(11, 1), 0);
    }

    private static void mineLeavesTheText(Due due) {
        PrayerTailings x = written("M3K050");
        due.is("mine()", x.mine(), 1);
        due.is("about(9)", x.about(9), 6);
        due.is("fault()", x.fault(), NONE);
        due.is("write(4)", x.write(4, 0x4B303531), 10);
        due.is("mine()", x.mine(), 2);
        due.is("wipe()", x.wipe(), 10);
    }

    private static void mineHasNoActs(Due due) {
        PrayerTailings x = Due.told("M3K050");
        x.day();
        x.day();
        due.is("mine()", x.mine(), 1);
        due.is("about(7)", x.about(7), 0);
        due.is("undo()", x.undo(), LATE);
        due.is("about(2)", x.about(2), 0);
    }

    private static void mineLetsGoWhatWasKept(Due due) {
        PrayerTailings x = Due.told("M3K050");
        due.is("keep(0)", x.keep(0), 0);
        due.is("keep(1)", x.keep(1), 0);
        due.is("mine()", x.mine(), 1);
        due.is("again(0)", x.again(0), LATE);
        due.is("again(1)", x.again(1), LATE);
    }

    private static void mineLeavesSeenAndSeed(Due due) {
        PrayerTailings x = Due.told("M3K050");
        x.see(5, 2);
        x.seed(77);
        due.is("mine()", x.mine(), 1);
        due.is("about(8)", x.about(8), 1);
        due.is("silent(1)", x.silent(1), 1);
        due.is("seed(0)", x.seed(0), 77);
    }

    private static void mineTellsMonks(Due due) {
        due.is("mine() of none", written("M1").mine(), 0);
        due.is("mine() of one", written("M1K000").mine(), 1);
        due.is("mine() of four", written("M1" + FOUR_MONKS).mine(), 4);
    }

    private static void mineOfAFault(Due due) {
        for (String text : new String[] {"", "M", "X", "M0", "M1C", "M1K00", "M1X", "M1K000K002"}) {
            due.refused("mine() of " + text, () -> {
                PrayerTailings x = Due.told("M3C05123K050K061");
                x.keep(1);
                x.day();
                x.wipe();
                Due.write(x, text);
                return x;
            }, PrayerTailings::mine, LATE);
        }
    }
}
