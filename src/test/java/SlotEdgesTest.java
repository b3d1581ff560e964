import java.util.function.Supplier;

/** The boundary sentences of SLOTS, promises 27 and 28, of the REFUSALS, Terms 4, and of an object's use. */
public final class SlotEdgesTest {
    private static final int UNKNOWN = -1, BAD = -2, LATE = -3, FULL = -4, NONE = -9;
    private static final int[] NO_SLOTS = {-1, 2, 3, 32, 33, Integer.MIN_VALUE, Integer.MAX_VALUE};

    public static void main(String[] args) {
        edges().run();
    }

    static Edges edges() {
        Edges all = new Edges("SlotEdgesTest");
        ofSlots(all);
        ofCalls(all);
        ofRefusals(all);
        ofUse(all);
        return all;
    }

    private static void ofSlots(Edges all) {
        all.stand("Terms 3", "SLOTS 0 .. 1 keep CELLS, MONKS, what is TAKEN, ECHOES, THE DAY", SlotEdgesTest::whatIsKept)
            .breaks("SLOTS = 2", "SLOTS = 1")
            .breaks("SLOTS = 2", "SLOTS = 3")
            .breaksIn("keep", "Mine place = slots[slot];", "Mine place = slots[0];")
            .breaksIn("take", "System.arraycopy(other.ore, 0, ore, 0, CELLS);", "")
            .breaksIn("take", "System.arraycopy(other.loose, 0, loose, 0, CELLS);", "")
            .breaksIn("take", "System.arraycopy(other.props, 0, props, 0, CELLS);", "")
            .breaksIn("take", "System.arraycopy(other.echoes, 0, echoes, 0, CELLS);", "")
            .breaksIn("take", "System.arraycopy(other.places, 0, places, 0, MONKS);", "")
            .breaksIn("take", "sects = other.sects;", "")
            .breaksIn("take", "buried = other.buried;", "")
            .breaksIn("take", "fallen = other.fallen;", "")
            .breaksIn("take", "taken = other.taken;", "")
            .breaksIn("take", "days = other.days;", "");
        all.stand("Terms 3", "(no ACTS when one goes on)", SlotEdgesTest::noActsWhenOneGoesOn)
            .breaksIn("again", "acts = 0;", "")
            .breaksIn("again", "acts = 0;", "acts = Math.min(1, acts);")
            .breaksIn("keep", "kept |= 1 << slot;", "kept |= 1 << slot; acts = 0;");
    }

    private static void ofCalls(Edges all) {
        all.stand("Promise 27", "They are kept: THE DAY.", SlotEdgesTest::keepTellsTheDay)
            .breaksIn("keep", "return now.days;", "return slot;")
            .breaksIn("keep", "kept |= 1 << slot;", "kept = 1 << slot;")
            .breaksIn("keep", "place.take(now);", "if (!has(kept, slot)) { place.take(now); }");
        all.stand("Promise 27", "UNKNOWN.", SlotEdgesTest::keepRefused)
            .breaksIn("keep", "slot >= slots.length", "slot > slots.length")
            .breaksIn("keep", "if (slot < 0 || slot >= slots.length) {\n            return UNKNOWN;",
                "if (slot < 0 || slot >= slots.length) {\n            kept = 3;\n            return UNKNOWN;")
            .breaksIn("keep", "return UNKNOWN;", "return BAD;");
        all.stand("Promise 28", "They are as they were kept: THE DAY.", SlotEdgesTest::againTellsTheDay)
            .breaksIn("again", "now.take(slots[slot]);", "now.take(slots[0]);")
            .breaksIn("again", "now.take(slots[slot]);", "")
            .breaksIn("again", "return now.days;", "return 0;")
            .breaksIn("again", "acts = 0;", "acts = 0; kept &= ~(1 << slot);")
            .breaksIn("again", "acts = 0;", "acts = 0; seen = 0;")
            .breaksIn("again", "acts = 0;", "acts = 0; seedNow = 0;");
        all.stand("Promise 28", "UNKNOWN; LATE: none were kept.", SlotEdgesTest::againRefused)
            .breaksIn("again", "return UNKNOWN;", "return LATE;")
            .breaksIn("again", "return LATE;", "return UNKNOWN;")
            .breaksIn("again", "!has(kept, slot)", "false")
            .breaksIn("again", "!has(kept, slot)", "kept == 0")
            .breaksIn("again", "return LATE;", "acts = 0; return LATE;");
    }

    private static void ofRefusals(Edges all) {
        all.stand("Terms 4", "REFUSALS: UNKNOWN -1 (there is no such CELL, MONK, SLOT), BAD -2, LATE -3, FULL -4.",
                SlotEdgesTest::numbersOfRefusals)
            .breaks("UNKNOWN = -1,", "UNKNOWN = -5,")
            .breaks("BAD = -2,", "BAD = -5,")
            .breaks("LATE = -3,", "LATE = -5,")
            .breaks("FULL = -4,", "FULL = -5,");
        all.stand("Terms 4", "Of several what is told first.", SlotEdgesTest::whatIsToldFirst)
            .breaksIn("write", "if (n < 1 || n > WRITE_MOST) {\n            return BAD;\n        }\n        if (length + n > TEXT_MOST) {\n            return FULL;",
                "if (length + Math.max(1, n) > TEXT_MOST) {\n            return FULL;\n        }\n        if (n < 1 || n > WRITE_MOST) {\n            return BAD;")
            .breaksIn("cell", "if (!isCell(cell)) {", "if (what >= 0 && what <= 5 && !isCell(cell)) {")
            .breaksIn("monk", "if (!now.isMonk(monk)) {", "if (what >= 0 && what <= 3 && !now.isMonk(monk)) {")
            .breaksIn("walk", "!isCell(cell)", "!isCell(cell) && now.isLiving(monk)")
            .breaksIn("see", "if (!isCell(cell)) {", "if (d >= 0 && d <= 100 && !isCell(cell)) {")
            .breaksIn("see", "if (!isCell(cell)) {", "if (seen < SEEN_MOST && !isCell(cell)) {")
            .breaksIn("see", "if (d < 0 || d > SEEN_FALLEN) {", "if (seen < SEEN_MOST && (d < 0 || d > SEEN_FALLEN)) {")
            .breaksIn("chance", "if (!isCell(cell)) {", "if (x >= 0 && x <= TENTHS && !isCell(cell)) {")
            .breaksIn("bestAt", "n < 1 ||", "n < 1 && i == 0 ||");
        all.stand("Terms 4", "What is refused changes nothing.", SlotEdgesTest::refusalsChangeNothing)
            .breaksIn("write", "return BAD;", "length = 0; return BAD;")
            .breaksIn("mine", "return LATE;", "kept = 0; return LATE;")
            .breaksIn("pray", "return LATE;", "remember(); return LATE;")
            .breaksIn("pray", "return UNKNOWN;", "remember(); return UNKNOWN;")
            .breaksIn("oath", "return LATE;", "remember(); return LATE;")
            .breaksIn("oath", "return FULL;", "remember(); return FULL;")
            .breaksIn("doubt", "return LATE;", "remember(); return LATE;")
            .breaksIn("walk", "return LATE;", "put(now.places, monk, cell); return LATE;")
            .breaksIn("falls", "return LATE;", "acts = 0; return LATE;")
            .breaksIn("psalm", "return BAD;", "acts = 0; return BAD;")
            .breaksIn("best", "return BAD;", "acts = 0; return BAD;")
            .breaksIn("bestAt", "return BAD;", "acts = 0; return BAD;")
            .breaksIn("down", "return UNKNOWN;", "now.days++; return UNKNOWN;")
            .breaksIn("see", "return BAD;", "seen = 0; return BAD;")
            .breaksIn("see", "return FULL;", "seen = 0; return FULL;")
            .breaksIn("silent", "return BAD;", "seen = 0; return BAD;")
            .breaksIn("chance", "return BAD;", "seen = 0; return BAD;")
            .breaksIn("month", "return BAD;", "seedNow = 0; return BAD;")
            .breaksIn("keep", "return UNKNOWN;", "kept = 0; return UNKNOWN;")
            .breaksIn("again", "return UNKNOWN;", "acts = 0; return UNKNOWN;");
        all.stand("Terms 4", "NONE is -9.", SlotEdgesTest::numberOfNone)
            .breaks("NONE = -9;", "NONE = -5;");
        all.stand("Terms 4", "FRACTIONS are told above (upper = true), below, in least terms.", SlotEdgesTest::leastTerms)
            .breaksIn("chance", "upper ? part : whole", "upper ? whole : part")
            .breaksIn("chance", "commonDivisor(part, whole)", "1")
            .breaksIn("chance", "commonDivisor(part, whole)", "Math.min(2, commonDivisor(part, whole))")
            .breaksIn("commonDivisor", "step < 64", "step < 3");
    }

    private static void ofUse(Edges all) {
        all.stand("What it is", "An object is used for at most 512 calls after it has been made", SlotEdgesTest::useOfAnObject)
            .breaksIn("remember", "acts--;", "")
            .breaksIn("day", "remember();", "if (now.days < 500) { remember(); }")
            .breaksIn("endDay", "days++;", "days = days + 1 & 255;");
    }

    private static PrayerTailings kept() {
        PrayerTailings x = Due.told("M3C00131C05330C11412C06519K000K051K060K110");
        x.pray(3);
        x.pray(2);
        x.day();
        return x;
    }

    private static void whatIsKept(Due due) {
        for (int slot = 0; slot < 2; slot++) {
            PrayerTailings x = kept();
            due.is("keep(" + slot + ")", x.keep(slot), 1);
            x.walk(3, 10);
            x.oath(3);
            x.pray(0);
            x.pray(3);
            x.day();
            x.keep(1 - slot);
            due.is("again(" + slot + ")", x.again(slot), 1);
            due.is("about(2)", x.about(2), 1);
            due.is("about(3)", x.about(3), 3);
            due.is("about(4)", x.about(4), 1 << 5);
            due.is("about(5)", x.about(5), 2);
            int[][] cells = {{0, 1, 3, 1, 0, 0, 1}, {5, 0, 0, 0, 0, 1, 2}, {11, 4, 4, 2, 0, 0, 8}};
            for (int[] cell : cells) {
                for (int what = 0; what <= 5; what++) {
                    due.is("cell(" + cell[0] + ", " + what + ")", x.cell(cell[0], what), cell[what + 1]);
                }
            }
            int[] places = {0, 5, 6, 11};
            int[] sects = {0, 1, 0, 0};
            for (int monk = 0; monk < 4; monk++) {
                due.is("monk(" + monk + ", 0)", x.monk(monk, 0), places[monk]);
                due.is("monk(" + monk + ", 1)", x.monk(monk, 1), sects[monk]);
            }
        }
        // What echoes is kept, too.
        PrayerTailings x = Due.told("M9K000");
        x.pray(0);
        x.pray(0);
        x.keep(1);
        x.day();
        x.again(1);
        due.is("cell(0, 3)", x.cell(0, 3), 2);
        due.is("cell(0, 1)", x.cell(0, 1), 4);
        due.is("keep(2)", x.keep(2), UNKNOWN);
    }

    private static void noActsWhenOneGoesOn(Due due) {
        PrayerTailings x = Due.told("M9K000");
        x.day();
        x.day();
        due.is("keep(0)", x.keep(0), 2);
        due.is("about(7): those of the mine stay", x.about(7), 2);
        due.is("undo()", x.undo(), 1);
        due.is("again(0)", x.again(0), 2);
        due.is("about(7)", x.about(7), 0);
        due.is("undo()", x.undo(), LATE);
        due.is("about(2)", x.about(2), 2);
        x.day();
        due.is("undo()", x.undo(), 0);
        due.is("about(2)", x.about(2), 2);
    }

    private static void keepTellsTheDay(Due due) {
        PrayerTailings x = Due.told("M9K000");
        due.is("keep(0)", x.keep(0), 0);
        x.day();
        due.is("keep(1)", x.keep(1), 1);
        x.day();
        due.is("keep(1) over what was kept", x.keep(1), 2);
        x.day();
        due.is("again(0)", x.again(0), 0);
        due.is("again(1)", x.again(1), 2);
        due.is("keep(0) of a new object", new PrayerTailings().keep(0), 0);
        PrayerTailings y = new PrayerTailings();
        y.keep(1);
        y.day();
        due.is("again(1) of a new object", y.again(1), 0);
    }

    private static void keepRefused(Due due) {
        for (int slot : NO_SLOTS) {
            due.refused("keep(" + slot + ")", SlotEdgesTest::kept, x -> x.keep(slot), UNKNOWN);
        }
        due.is("keep(0)", kept().keep(0), 1);
        due.is("keep(1)", kept().keep(1), 1);
    }

    private static void againTellsTheDay(Due due) {
        PrayerTailings x = kept();
        x.keep(1);
        x.day();
        x.keep(0);
        x.day();
        x.see(0, 1);
        x.seed(8);
        due.is("again(1)", x.again(1), 1);
        due.is("again(1), once more", x.again(1), 1);
        due.is("again(0)", x.again(0), 2);
        due.is("about(2)", x.about(2), 2);
        due.is("about(8): what is seen is not kept", x.about(8), 1);
        due.is("seed(0): nor is the seed", x.seed(0), 8);
        PrayerTailings y = kept();
        y.keep(0);
        y.pray(0);
        y.again(0);
        due.same("again(0)", Due.look(y).replaceAll("^(\\d+ ){10}", ""), Due.look(kept()).replaceAll("^(\\d+ ){10}", ""));
    }

    private static void againRefused(Due due) {
        for (int slot : NO_SLOTS) {
            due.refused("again(" + slot + ")", SlotEdgesTest::kept, x -> x.again(slot), UNKNOWN);
        }
        due.refused("again(0)", SlotEdgesTest::kept, x -> x.again(0), LATE);
        due.refused("again(1)", SlotEdgesTest::kept, x -> x.again(1), LATE);
        Supplier<PrayerTailings> first = () -> {
            PrayerTailings x = kept();
            x.keep(0);
            return x;
        };
        Supplier<PrayerTailings> second = () -> {
            PrayerTailings x = kept();
            x.keep(1);
            return x;
        };
        due.refused("again(1) when 0 is kept", first, x -> x.again(1), LATE);
        due.refused("again(0) when 1 is kept", second, x -> x.again(0), LATE);
        due.is("again(0) when 0 is kept", first.get().again(0), 1);
        due.is("again(1) when 1 is kept", second.get().again(1), 1);
    }

    private static void numbersOfRefusals(Due due) {
        due.is("UNKNOWN", PrayerTailings.UNKNOWN, -1);
        due.is("BAD", PrayerTailings.BAD, -2);
        due.is("LATE", PrayerTailings.LATE, -3);
        due.is("FULL", PrayerTailings.FULL, -4);
        PrayerTailings x = new PrayerTailings();
        due.is("no such cell", x.cell(12, 0), -1);
        due.is("no such monk", x.monk(0, 0), -1);
        due.is("no such slot", x.keep(2), -1);
        due.is("bad", x.about(10), -2);
        due.is("late", x.undo(), -3);
        due.is("full", Due.told("M1C00009K000").oath(0), -4);
    }

    private static void numberOfNone(Due due) {
        due.is("NONE", PrayerTailings.NONE, -9);
        PrayerTailings x = Due.told("M9");
        due.is("fault()", x.fault(), -9);
        due.is("best(1)", x.best(1), -9);
        due.is("bestAt(1, 0)", x.bestAt(1, 0), -9);
        due.is("down(0)", x.down(0), -9);
    }

    /** Each pair, or more, of refusals that one call may have. */
    private static void whatIsToldFirst(Due due) {
        PrayerTailings full = new PrayerTailings();
        for (int i = 0; i < 9; i++) {
            full.write(8, 0);
        }
        due.is("write(9): bad, and full", full.write(9, 0), BAD);
        due.is("write(0): bad, and full", full.write(0, 0), BAD);
        PrayerTailings x = Due.told("M8C05090K050K110");
        x.day();
        due.is("cell(12, 6): unknown, and bad", x.cell(12, 6), UNKNOWN);
        due.is("monk(2, 4): unknown, and bad", x.monk(2, 4), UNKNOWN);
        due.is("walk(2, 12): unknown twice", x.walk(2, 12), UNKNOWN);
        due.is("walk(0, 12): unknown, and late", x.walk(0, 12), UNKNOWN);
        due.is("walk(0, 5): late twice", x.walk(0, 5), LATE);
        due.is("oath(0): late twice", x.oath(0), LATE);
        due.is("see(12, 101): unknown, and bad", x.see(12, 101), UNKNOWN);
        for (int i = 0; i < 6; i++) {
            x.see(0, 0);
        }
        due.is("see(12, 101): unknown, bad, and full", x.see(12, 101), UNKNOWN);
        due.is("see(12, 0): unknown, and full", x.see(12, 0), UNKNOWN);
        due.is("see(0, 101): bad, and full", x.see(0, 101), BAD);
        due.is("see(0, 0): full", x.see(0, 0), FULL);
        due.is("chance(12, 11): unknown, and bad", x.chance(12, 11, true), UNKNOWN);
        due.is("psalm(0, -1): bad twice", x.psalm(0, -1), BAD);
        due.is("bestAt(0, 1): bad, and none", x.bestAt(0, 1), BAD);
        due.is("bestAt(4, -1): bad, and none", x.bestAt(4, -1), BAD);
        due.is("month(0, 11): bad twice", x.month(0, 11), BAD);
        due.is("again(2): unknown, and none were kept", x.again(2), UNKNOWN);
    }

    /** Acts, both slots, something seen, a seed, a text told on, a buried monk, one on a fallen cell. */
    private static PrayerTailings used() {
        PrayerTailings x = Due.told("M8C00321C05290C11909K000K011K050K110");
        x.keep(0);
        x.day();
        x.keep(1);
        x.pray(0);
        x.walk(1, 5);
        x.doubt(3);
        x.see(0, 8);
        x.see(11, 2);
        x.seed(42);
        x.write(1, 'K');
        return x;
    }

    private static PrayerTailings usedAndFull() {
        PrayerTailings x = used();
        for (int i = 0; i < 4; i++) {
            x.see(11, 2);
        }
        return x;
    }

    private static void refusalsChangeNothing(Due due) {
        Supplier<PrayerTailings> used = SlotEdgesTest::used;
        due.refused("write(0)", used, x -> x.write(0, 1), BAD);
        due.refused("write(9)", used, x -> x.write(9, 1), BAD);
        due.refused("mine()", used, PrayerTailings::mine, LATE);
        due.refused("about(10)", used, x -> x.about(10), BAD);
        due.refused("cell(12, 0)", used, x -> x.cell(12, 0), UNKNOWN);
        due.refused("cell(0, 6)", used, x -> x.cell(0, 6), BAD);
        due.refused("monk(4, 0)", used, x -> x.monk(4, 0), UNKNOWN);
        due.refused("monk(0, 4)", used, x -> x.monk(0, 4), BAD);
        due.refused("pray(4)", used, x -> x.pray(4), UNKNOWN);
        due.refused("pray(2)", used, x -> x.pray(2), LATE);
        due.refused("oath(4)", used, x -> x.oath(4), UNKNOWN);
        due.refused("oath(2)", used, x -> x.oath(2), LATE);
        due.refused("oath(1)", used, x -> x.oath(1), LATE);
        due.refused("oath(3)", used, x -> x.oath(3), FULL);
        due.refused("doubt(4)", used, x -> x.doubt(4), UNKNOWN);
        due.refused("doubt(2)", used, x -> x.doubt(2), LATE);
        due.refused("walk(4, 0)", used, x -> x.walk(4, 0), UNKNOWN);
        due.refused("walk(0, 12)", used, x -> x.walk(0, 12), UNKNOWN);
        due.refused("walk(2, 1)", used, x -> x.walk(2, 1), LATE);
        due.refused("walk(0, 5)", used, x -> x.walk(0, 5), LATE);
        due.refused("falls(4)", used, x -> x.falls(4), UNKNOWN);
        due.refused("falls(2)", used, x -> x.falls(2), LATE);
        due.refused("psalm(9, 0)", used, x -> x.psalm(9, 0), BAD);
        due.refused("psalm(1, 10)", used, x -> x.psalm(1, 10), BAD);
        due.refused("best(4)", used, x -> x.best(4), BAD);
        due.refused("bestAt(4, 0)", used, x -> x.bestAt(4, 0), BAD);
        due.refused("down(12)", used, x -> x.down(12), UNKNOWN);
        due.refused("see(12, 0)", used, x -> x.see(12, 0), UNKNOWN);
        due.refused("see(0, 101)", used, x -> x.see(0, 101), BAD);
        due.refused("see(0, 0)", SlotEdgesTest::usedAndFull, x -> x.see(0, 0), FULL);
        due.refused("silent(2)", used, x -> x.silent(2), BAD);
        due.refused("chance(12, 0)", used, x -> x.chance(12, 0, true), UNKNOWN);
        due.refused("chance(0, 11)", used, x -> x.chance(0, 11, true), BAD);
        due.refused("month(31, 0)", used, x -> x.month(31, 0), BAD);
        due.refused("month(1, 11)", used, x -> x.month(1, 11), BAD);
        due.refused("keep(2)", used, x -> x.keep(2), UNKNOWN);
        due.refused("again(2)", used, x -> x.again(2), UNKNOWN);
        due.refused("undo()", () -> Due.told("M3K050"), PrayerTailings::undo, LATE);
        due.refused("again(0)", () -> Due.told("M3K050"), x -> x.again(0), LATE);
    }

    private static void leastTerms(Due due) {
        int[][] want = {{0, 1}, {1, 10}, {1, 5}, {3, 10}, {2, 5}, {1, 2}, {3, 5}, {7, 10}, {4, 5}, {9, 10}, {1, 1}};
        PrayerTailings one = Due.told("M1K000");
        for (int x = 0; x <= 10; x++) {
            due.is("above of " + x, one.chance(0, x, true), want[x][0]);
            due.is("below of " + x, one.chance(0, x, false), want[x][1]);
            due.is("above of none", one.chance(11, x, true), 0);
            due.is("below of none", one.chance(11, x, false), 1);
        }
        PrayerTailings four = Due.told("M1K000K000K000K000");
        for (int x = 0; x <= 10; x++) {
            int above = 10000 - (10 - x) * (10 - x) * (10 - x) * (10 - x);
            int below = 10000;
            for (int by : new int[] {2, 5}) {
                while (above % by == 0 && below % by == 0) {
                    above /= by;
                    below /= by;
                }
            }
            due.is("above of four, " + x, four.chance(0, x, true), above);
            due.is("below of four, " + x, four.chance(0, x, false), below);
        }
    }

    private static void useOfAnObject(Due due) {
        PrayerTailings x = new PrayerTailings();
        for (int call = 1; call <= 510; call++) {
            x.day();
        }
        due.is("the 511th call", x.undo(), 13);
        due.is("the 512th call", x.about(2), 509);
        // The dearest calls can be made to the end.
        PrayerTailings y = Due.told("M9K000K030K080K110");
        for (int call = 5; call < 512; call += 3) {
            due.is("best(3)", y.best(3), 0);
            due.is("month(30, 0)", y.month(30, 0), 0);
            due.is("down(5)", y.down(5), NONE);
        }
    }
}
