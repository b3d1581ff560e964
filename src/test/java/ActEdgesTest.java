import java.util.function.Consumer;
import java.util.function.Supplier;

/** The boundary sentences of PRAYERS, WAVES, OATHS, DOUBTS, WALKS, DAYS and ACTS: Terms 1, promises 9 to 14. */
public final class ActEdgesTest {
    private static final int UNKNOWN = -1, LATE = -3, FULL = -4;

    public static void main(String[] args) {
        edges().run();
    }

    static Edges edges() {
        Edges all = new Edges("ActEdgesTest");
        ofPrayers(all);
        ofWaves(all);
        ofOtherActs(all);
        ofTheRow(all);
        ofPrayAndOath(all);
        ofDoubtAndWalk(all);
        ofDayAndUndo(all);
        return all;
    }

    private static void ofPrayers(Edges all) {
        all.stand("Terms 1", "A PRAYER of a MONK that is not BURIED:", ActEdgesTest::buriedDoNotPray)
            .breaksIn("pray", "!now.isLiving(monk)", "!now.isMonk(monk)");
        all.stand("Terms 1", "its CELL is LOOSE by 2 more, its NEIGHBOURS by 1;", ActEdgesTest::prayerLoosens)
            .breaksIn("loosenBy", "2 * force", "3 * force")
            .breaksIn("loosenBy", "2 * force", "force")
            .breaksIn("loosenBy", "at(NEAR, place), force", "at(NEAR, place) & 2047, force")
            .breaksIn("loosenBy", "at(NEAR, place), force", "at(NEAR, place) & ~1, force");
        all.stand("Terms 1",
                "twice as much each, if a MONK of the other SECT that is not BURIED is on its CELL, or on a NEIGHBOUR;",
                ActEdgesTest::prayerOfTwoSects)
            .breaksIn("forceOf", "1 << place | at(NEAR, place)", "1 << place")
            .breaksIn("forceOf", "1 << place | at(NEAR, place)", "at(NEAR, place)")
            .breaksIn("forceOf", "& others & living", "& others")
            .breaksIn("forceOf", "& others & living", "& living & ~(1 << monk)")
            .breaksIn("forceOf", "? ~sects : sects", "? ~sects : 0")
            .breaksIn("forceOf", "? ~sects : sects", "? 0 : sects")
            .breaksIn("forceOf", "? 2 : 1", "? 1 + Integer.bitCount(around & others & living) : 1")
            .breaksIn("loosenBy", "at(NEAR, place), force", "at(NEAR, place), 1");
        all.stand("Terms 1", "its CELL has one ECHO more, if it is not FALLEN.", ActEdgesTest::oneEchoMore)
            .breaksIn("loosenBy", "at(echoes, place) + 1", "at(echoes, place) + force")
            .breaksIn("loosenBy", "at(echoes, place) + 1", "1")
            .breaksIn("loosenBy", "!isFallen(place)", "true");
        all.stand("Terms 1", "Nothing that is FALLEN gets LOOSE;", ActEdgesTest::fallenIsNotLoose)
            .breaksIn("loosen", "cells & ~fallen", "cells");
        all.stand("Terms 1", "none is LOOSE by more than 99.", ActEdgesTest::looseAtMost)
            .breaks("LOOSE_MOST = 99", "LOOSE_MOST = 18")
            .breaksIn("loosen", "Math.min(LOOSE_MOST, loose[cell] + by)", "(byte) (loose[cell] + by)");
    }

    private static void ofWaves(Edges all) {
        all.stand("Terms 1", "CELLS that are LOOSE by more than HOLD and their PROPS together", ActEdgesTest::looserThanHoldAndProps)
            .breaksIn("tooLoose", "loose[cell] > hold", "loose[cell] >= hold")
            .breaksIn("tooLoose", "hold + props[cell]", "hold + props[cell] + 1")
            .breaksIn("tooLoose", "hold + props[cell]", "hold")
            .breaksIn("tooLoose", "hold + props[cell]", "Math.max(hold, props[cell])");
        all.stand("Terms 1", "Then WAVES: as long as there are CELLS", ActEdgesTest::asManyWavesAsCells)
            .breaksIn("waves", "wave < CELLS", "wave < CELLS - 1")
            .breaksIn("waves", "wave < CELLS", "wave < 1");
        all.stand("Terms 1", "all of these FALL at once", ActEdgesTest::allFallAtOnce)
            .breaksIn("fell", "fallen |= due;", "")
            .breaksIn("waves", "fell(due);", "fell(due); break;");
        all.stand("Terms 1", "their ORE is TAKEN, MONKS there are BURIED, they are LOOSE by 0, have no ORE, no PROPS, no ECHOES, are FALLEN",
                ActEdgesTest::whatFallsIsEmpty)
            .breaksIn("fell", "taken += at(ore, cell);", "")
            .breaksIn("fell", "buried |= monksOn(due);", "buried |= monksOn(due) & -monksOn(due);")
            .breaksIn("empty", "put(ore, cell, 0);", "")
            .breaksIn("empty", "put(loose, cell, 0);", "put(loose, cell, 1);")
            .breaksIn("empty", "put(props, cell, 0);", "")
            .breaksIn("empty", "put(echoes, cell, 0);", "");
        all.stand("Terms 1", "then for each of them its NEIGHBOURS are LOOSE by 1 more", ActEdgesTest::whatFallsLoosens)
            .breaksIn("fell", "loosen(at(NEAR, cell), 1);", "loosen(at(NEAR, cell), 2);")
            .breaksIn("fell", "loosen(at(NEAR, cell), 1);", "");
    }

    private static void ofOtherActs(Edges all) {
        all.stand("Terms 1", "An OATH: one PROP more on its CELL (9 at most, not where it is FALLEN).", ActEdgesTest::oathOfTerms)
            .breaks("PROPS_MOST = 9", "PROPS_MOST = 8")
            .breaks("PROPS_MOST = 9", "PROPS_MOST = 10")
            .breaksIn("oath", "|| now.isFallen(place)", "")
            .breaksIn("oath", "put(now.props, place, props + 1);", "put(now.props, place, props + 2);");
        all.stand("Terms 1", "A DOUBT: its CELL is LOOSE by 1 less (0 at least).", ActEdgesTest::doubtOfTerms)
            .breaksIn("doubt", "Math.max(0,", "Math.max(-1,")
            .breaksIn("doubt", "Math.max(0,", "Math.max(1,")
            .breaksIn("doubt", "- 1)", "- 2)");
        all.stand("Terms 1", "A WALK: to a NEIGHBOUR.", ActEdgesTest::walkOfTerms)
            .breaksIn("walk", "put(now.places, monk, cell);", "")
            .breaksIn("walk", "!has(at(NEAR, now.placeOf(monk)), cell)", "false");
        all.stand("Terms 1", "A DAY goes by: THE DAY is one more,", ActEdgesTest::dayIsOneMore)
            .breaksIn("endDay", "days++;", "")
            .breaksIn("endDay", "days++;", "days = Math.min(30, days + 1);");
        all.stand("Terms 1", "each CELL is LOOSE by as many more as it has ECHOES, and has none then; then WAVES.",
                ActEdgesTest::echoesOfADay)
            .breaksIn("endDay", "at(echoes, cell)", "Math.min(1, at(echoes, cell))")
            .breaksIn("endDay", "put(echoes, cell, 0);", "")
            .breaksIn("endDay", "put(echoes, cell, 0);", "put(echoes, cell, at(echoes, cell) - 1);")
            .breaksIn("endDay", "return waves();", "return 0;")
            .breaksIn("endDay", "cell < CELLS", "cell < CELLS - 1")
            .breaksIn("endDay", "int cell = 0", "int cell = 1");
    }

    private static void ofTheRow(Edges all) {
        all.stand("Terms 1", "ACTS (PRAYERS, OATHS, DOUBTS, WALKS, DAYS) are a row", ActEdgesTest::whatIsAnAct)
            .breaksIn("pray", "remember();", "")
            .breaksIn("oath", "remember();", "")
            .breaksIn("doubt", "remember();", "")
            .breaksIn("walk", "remember();", "")
            .breaksIn("day", "remember();", "")
            .breaksIn("keep", "kept |= 1 << slot;", "kept |= 1 << slot; remember();")
            .breaksIn("falls", "trial.take(now);", "trial.take(now); remember();");
        all.stand("Terms 1", "(14 at most; when it is full, the first one is forgotten)", ActEdgesTest::fourteenActs)
            .breaks("ACTS_MOST = 14", "ACTS_MOST = 13")
            .breaks("ACTS_MOST = 14", "ACTS_MOST = 15")
            .breaksIn("remember", "past[i - 1] = past[i];", "")
            .breaksIn("remember", "int i = 1;", "int i = 2;")
            .breaksIn("remember", "acts >= past.length", "acts > past.length");
        all.stand("Terms 1", "the last one can be undone.", ActEdgesTest::everyActCanBeUndone)
            .breaksIn("undo", "now.take(past[acts]);", "")
            .breaksIn("take", "System.arraycopy(other.ore, 0, ore, 0, CELLS);", "")
            .breaksIn("take", "System.arraycopy(other.loose, 0, loose, 0, CELLS);", "")
            .breaksIn("take", "System.arraycopy(other.props, 0, props, 0, CELLS);", "")
            .breaksIn("take", "System.arraycopy(other.echoes, 0, echoes, 0, CELLS);", "")
            .breaksIn("take", "System.arraycopy(other.places, 0, places, 0, MONKS);", "")
            .breaksIn("take", "buried = other.buried;", "")
            .breaksIn("take", "fallen = other.fallen;", "")
            .breaksIn("take", "taken = other.taken;", "")
            .breaksIn("take", "days = other.days;", "");
    }

    private static void ofPrayAndOath(Edges all) {
        all.stand("Promise 9", "A PRAYER: which CELLS FALL by it, as bits.", ActEdgesTest::prayTellsFalls)
            .breaksIn("waves", "fallen & ~before", "fallen")
            .breaksIn("waves", "fallen & ~before", "Integer.bitCount(fallen & ~before)");
        all.stand("Promise 9", "UNKNOWN; LATE: it is BURIED.", ActEdgesTest::prayRefused)
            .breaksIn("pray", "return UNKNOWN;", "return LATE;")
            .breaksIn("pray", "return LATE;", "return UNKNOWN;")
            .breaksIn("pray", "return LATE;", "remember(); return LATE;")
            .breaksIn("isMonk", "monk < monks", "monk <= monks")
            .breaksIn("isMonk", "monk >= 0", "monk >= -1");
        all.stand("Promise 10", "An OATH: PROPS then.", ActEdgesTest::oathTellsProps)
            .breaksIn("oath", "return props + 1;", "return props;")
            .breaksIn("oath", "return props + 1;", "return 1;");
        all.stand("Promise 10", "UNKNOWN; LATE: it is BURIED, or its CELL is FALLEN;", ActEdgesTest::oathRefused)
            .breaksIn("oath", "return UNKNOWN;", "return LATE;")
            .breaksIn("oath", "!now.isLiving(monk) || now.isFallen(place)", "!now.isLiving(monk)")
            .breaksIn("oath", "return LATE;", "return UNKNOWN;")
            .breaksIn("oath", "return LATE;", "return FULL;")
            .breaksIn("oath", "return LATE;", "remember(); return LATE;");
        all.stand("Promise 10", "FULL: there are 9.", ActEdgesTest::oathFull)
            .breaksIn("oath", "props >= PROPS_MOST", "props > PROPS_MOST")
            .breaksIn("oath", "props >= PROPS_MOST", "props >= PROPS_MOST - 1")
            .breaksIn("oath", "return FULL;", "return PROPS_MOST;")
            .breaksIn("oath", "return FULL;", "remember(); return FULL;");
    }

    private static void ofDoubtAndWalk(Edges all) {
        all.stand("Promise 11", "A DOUBT: by how much its CELL is LOOSE then.", ActEdgesTest::doubtTellsLoose)
            .breaksIn("doubt", "return loose;", "return loose + 1;")
            .breaksIn("doubt", "put(now.loose, place, loose);", "if (!now.isFallen(place)) { put(now.loose, place, loose); } else { return LATE; }");
        all.stand("Promise 11", "UNKNOWN; LATE: it is BURIED.", ActEdgesTest::doubtRefused)
            .breaksIn("doubt", "return UNKNOWN;", "return LATE;")
            .breaksIn("doubt", "!now.isLiving(monk)", "!now.isMonk(monk)")
            .breaksIn("doubt", "return LATE;", "remember(); return LATE;");
        all.stand("Promise 12", "A WALK: who else is there, as bits (BURIED ones aside).", ActEdgesTest::walkTellsOthers)
            .breaksIn("walk", "& ~(1 << monk)", "")
            .breaksIn("walk", "& now.living()", "")
            .breaksIn("walk", "now.monksOn(1 << cell) & now.living() & ~(1 << monk)",
                "Integer.bitCount(now.monksOn(1 << cell) & now.living() & ~(1 << monk))");
        all.stand("Promise 12", "UNKNOWN: monk, cell; LATE: it is BURIED, or the CELL is no NEIGHBOUR.", ActEdgesTest::walkRefused)
            .breaksIn("walk", "!now.isMonk(monk) || !isCell(cell)", "!now.isMonk(monk)")
            .breaksIn("walk", "!now.isMonk(monk) || !isCell(cell)", "!isCell(cell)")
            .breaksIn("walk", "!now.isMonk(monk) || !isCell(cell)", "!now.isMonk(monk) || !isCell(cell) && now.isLiving(monk)")
            .breaksIn("walk", "!now.isLiving(monk) ||", "")
            .breaksIn("walk", "!has(at(NEAR, now.placeOf(monk)), cell)", "!has(at(NEAR, now.placeOf(monk)) | 1 << now.placeOf(monk), cell)")
            .breaksIn("walk", "return LATE;", "remember(); return LATE;")
            .breaksIn("walk", "return UNKNOWN;", "remember(); return UNKNOWN;");
    }

    private static void ofDayAndUndo(Edges all) {
        all.stand("Promise 13", "A DAY goes by: which CELLS FALL by it, as bits.", ActEdgesTest::dayTellsFalls)
            .breaksIn("waves", "fallen & ~before", "fallen")
            .breaksIn("day", "return now.endDay();", "now.endDay(); return now.days;");
        all.stand("Promise 14", "The last ACT is undone: how many are left.", ActEdgesTest::undoTellsLeft)
            .breaksIn("undo", "return acts;", "return acts + 1;")
            .breaksIn("undo", "now.take(past[acts]);", "now.take(past[0]);");
        all.stand("Promise 14", "LATE: there is none.", ActEdgesTest::undoRefused)
            .breaksIn("undo", "return LATE;", "return 0;")
            .breaksIn("undo", "acts < 1", "acts < 2")
            .breaksIn("undo", "return LATE;", "now.take(past[0]); return LATE;");
    }

    private static void buriedDoNotPray(Due due) {
        PrayerTailings x = Due.told("M8C05090K050K110");
        x.day();
        due.is("pray(0) buried", x.pray(0), LATE);
        due.loose(x, "behind it", 0, 1, 0, 0, 1, 0, 1, 0, 0, 1, 0, 0);
        due.is("cell(5, 3)", x.cell(5, 3), 0);
        due.is("pray(1)", x.pray(1), 0);
        due.is("cell(11, 1)", x.cell(11, 1), 2);
    }

    private static void prayerLoosens(Due due) {
        for (int from = 0; from < 12; from++) {
            PrayerTailings x = Due.told("M9K" + Due.two(from) + "0");
            due.is("pray(0) on " + from, x.pray(0), 0);
            for (int cell = 0; cell < 12; cell++) {
                int far = Due.far(from, cell);
                due.is("cell(" + cell + ", 1)", x.cell(cell, 1), far == 0 ? 2 : far == 1 ? 1 : 0);
            }
        }
        PrayerTailings x = Due.told("M9C05340K050");
        x.pray(0);
        due.is("cell(5, 1): more than it was", x.cell(5, 1), 6);
    }

    private static void prayerOfTwoSects(Due due) {
        for (int own = 0; own < 12; own++) {
            for (int other = 0; other < 12; other++) {
                int force = Due.far(own, other) <= 1 ? 2 : 1;
                for (int sect = 0; sect < 2; sect++) {
                    prayedBy(due, "M9K" + Due.two(own) + sect + "K" + Due.two(other) + (1 - sect), own, force);
                    prayedBy(due, "M9K" + Due.two(own) + sect + "K" + Due.two(other) + sect, own, 1);
                }
            }
        }
        // Twice as much, however many there are of the other sect.
        prayedBy(due, "M9K050K051K061K011", 5, 2);
        prayedBy(due, "M9K051K050K060K010", 5, 2);
        prayedBy(due, "M9K050K050K060K091", 5, 2);
        // A buried one of the other sect counts no more.
        PrayerTailings x = Due.told("M8C06090K050K061");
        x.day();
        due.is("monk(0, 3)", x.monk(0, 3), 1);
        x.pray(0);
        due.loose(x, "beside a buried one", 0, 1, 1, 0, 1, 3, 0, 1, 0, 1, 1, 0);
        // One that is not buried counts, be its cell fallen or not.
        PrayerTailings y = Due.told("M8C06090K050K021");
        y.day();
        y.walk(1, 6);
        y.pray(0);
        due.loose(y, "beside one on a fallen cell", 0, 2, 1, 0, 2, 5, 0, 1, 0, 2, 1, 0);
    }

    private static void prayedBy(Due due, String text, int own, int force) {
        PrayerTailings x = Due.told(text);
        due.is("monk(0, 3) of " + text, x.monk(0, 3), force);
        due.is("pray(0) of " + text, x.pray(0), 0);
        for (int cell = 0; cell < 12; cell++) {
            int far = Due.far(own, cell);
            due.is("cell(" + cell + ", 1) of " + text, x.cell(cell, 1), far == 0 ? 2 * force : far == 1 ? force : 0);
        }
    }

    private static void oneEchoMore(Due due) {
        PrayerTailings x = Due.told("M9K050K061K110");
        x.pray(0);
        due.is("cell(5, 3): one, though twice as loose", x.cell(5, 3), 1);
        x.pray(0);
        due.is("cell(5, 3)", x.cell(5, 3), 2);
        x.pray(2);
        due.is("cell(11, 3)", x.cell(11, 3), 1);
        for (int cell : new int[] {0, 1, 2, 3, 4, 6, 7, 8, 9, 10}) {
            due.is("cell(" + cell + ", 3)", x.cell(cell, 3), 0);
        }
        PrayerTailings fallen = Due.told("M8C00090K040");
        fallen.day();
        fallen.walk(0, 0);
        due.is("pray(0)", fallen.pray(0), 0);
        due.is("cell(0, 3) fallen", fallen.cell(0, 3), 0);
    }

    private static void fallenIsNotLoose(Due due) {
        PrayerTailings x = Due.told("M8C00090K040");
        due.is("day()", x.day(), 1);
        x.pray(0);
        due.is("cell(0, 1): beside a prayer", x.cell(0, 1), 0);
        x.walk(0, 0);
        x.pray(0);
        due.is("cell(0, 1): under a prayer", x.cell(0, 1), 0);
        due.is("cell(1, 1)", x.cell(1, 1), 1 + 1);
        due.is("cell(4, 1)", x.cell(4, 1), 1 + 2 + 1);
        x.day();
        due.is("cell(0, 1): behind a day", x.cell(0, 1), 0);
        // In a later wave, and in the same one.
        PrayerTailings later = Due.told("M8C00090C01080");
        due.is("day()", later.day(), 3);
        due.is("cell(0, 1): beside a later wave", later.cell(0, 1), 0);
        PrayerTailings same = Due.told("M8C00090C01090");
        due.is("day()", same.day(), 3);
        due.loose(same, "behind one wave", 0, 0, 1, 0, 1, 1, 0, 0, 0, 0, 0, 0);
    }

    /** Nothing bears more than 18, so that a cap of 99 shows only in that it holds nothing up. */
    private static void looseAtMost(Due due) {
        PrayerTailings x = Due.told("M9C05999C01009C04009C06009C09009K050");
        for (int i = 0; i < 9; i++) {
            x.doubt(0);
        }
        for (int i = 0; i < 120; i++) {
            if (x.pray(0) != 0) {
                break;
            }
            x.doubt(0);
            x.doubt(0);
        }
        // Its neighbours come down by the nineteenth prayer, and loosen it by four.
        due.is("about(4)", x.about(4), 1 << 1 | 1 << 4 | 1 << 6 | 1 << 9);
        due.is("cell(5, 1)", x.cell(5, 1), 2 + 4);
        for (int i = 0; i < 120; i++) {
            due.is("pray(0)", x.pray(0), 0);
            x.doubt(0);
            x.doubt(0);
        }
        due.is("cell(5, 3)", x.cell(5, 3), 139);
        due.is("cell(5, 1)", x.cell(5, 1), 6);
        due.is("day()", x.day(), 1 << 5);
        due.is("cell(5, 1)", x.cell(5, 1), 0);
        due.is("about(3)", x.about(3), 9);
    }

    private static void looserThanHoldAndProps(Due due) {
        for (int hold = 1; hold <= 9; hold++) {
            for (int props = 0; props <= 9; props++) {
                for (int loose = 0; loose <= 9; loose++) {
                    String text = "M" + hold + "C050" + loose + props;
                    due.is("day() of " + text, Due.told(text).day(), loose > hold + props ? 32 : 0);
                }
            }
        }
        PrayerTailings most = Due.told("M9C05099K050");
        most.pray(0);
        most.pray(0);
        most.pray(0);
        most.pray(0);
        due.is("cell(5, 1)", most.cell(5, 1), 17);
        most.walk(0, 6);
        due.is("pray(0): as loose as nine and nine", most.pray(0), 0);
        due.is("cell(5, 1)", most.cell(5, 1), 18);
        due.is("pray(0): looser", most.pray(0), 32);
    }

    /** One wave a cell, along the first row, back along the second, and along the third. */
    private static void asManyWavesAsCells(Due due) {
        PrayerTailings x = Due.told("M1C00020C01010C02010C03010C07010C08010");
        due.is("day()", x.day(), 4095);
        PrayerTailings y = Due.told("M1C00911C01910C02910C03910C07910C08910K000");
        due.is("pray(0)", y.pray(0), 4095);
        due.is("about(3)", y.about(3), 54);
        PrayerTailings z = Due.told("M1C00020C01010C02010C03010C07010C08011");
        due.is("day(): but for the third row", z.day(), 255);
        due.loose(z, "behind the last wave", 0, 0, 0, 0, 0, 0, 0, 0, 2, 1, 1, 1);
    }

    private static void allFallAtOnce(Due due) {
        PrayerTailings x = Due.told("M2K050K060");
        due.is("pray(0)", x.pray(0), 0);
        due.is("pray(1)", x.pray(1), 1 << 5 | 1 << 6);
        due.loose(x, "behind the wave", 0, 2, 2, 0, 2, 0, 0, 2, 0, 2, 2, 0);
        due.is("about(5)", x.about(5), 3);
        PrayerTailings all = Due.told("M1C00120C02220C05320C07420C08520C10620");
        due.is("day()", all.day(), 4095);
        due.is("about(3)", all.about(3), 21);
        due.loose(all, "when all fell", 0, 0, 0, 0, 0, 0, 0, 0, 0, 0, 0, 0);
    }

    private static void whatFallsIsEmpty(Due due) {
        PrayerTailings x = Due.told("M9C05999K050K050K110");
        for (int i = 0; i < 4; i++) {
            due.is("pray(0)", x.pray(0), 0);
        }
        int[] before = {9, 17, 9, 4, 0, 3};
        int[] behind = {0, 0, 0, 0, 1, 3};
        for (int what = 0; what < 6; what++) {
            due.is("cell(5, " + what + ")", x.cell(5, what), before[what]);
        }
        due.is("pray(1)", x.pray(1), 32);
        for (int what = 0; what < 6; what++) {
            due.is("cell(5, " + what + ")", x.cell(5, what), behind[what]);
        }
        due.is("about(3)", x.about(3), 9);
        due.is("about(5)", x.about(5), 3);
        due.is("about(6)", x.about(6), 0);
        due.is("day(): its echoes are gone", x.day(), 0);
        due.is("cell(5, 1)", x.cell(5, 1), 0);
    }

    private static void whatFallsLoosens(Due due) {
        PrayerTailings x = Due.told("M8C00090C02090");
        due.is("day()", x.day(), 5);
        due.loose(x, "behind two falls", 0, 2, 0, 1, 1, 0, 1, 0, 0, 0, 0, 0);
        PrayerTailings around = Due.told("M8C01090C04090C06090C09090");
        due.is("day()", around.day(), 1 << 1 | 1 << 4 | 1 << 6 | 1 << 9);
        due.loose(around, "behind four falls", 2, 0, 2, 0, 0, 4, 0, 1, 2, 0, 2, 0);
        for (int cell = 0; cell < 12; cell++) {
            PrayerTailings one = Due.told("M8C" + Due.two(cell) + "090");
            one.day();
            for (int other = 0; other < 12; other++) {
                due.is("cell(" + other + ", 1) behind a fall of " + cell, one.cell(other, 1), Due.far(cell, other) == 1 ? 1 : 0);
            }
        }
    }

    private static void oathOfTerms(Due due) {
        PrayerTailings x = Due.told("M8C00090K050K010");
        for (int props = 1; props <= 9; props++) {
            due.is("oath(0)", x.oath(0), props);
            due.is("cell(5, 2)", x.cell(5, 2), props);
        }
        due.is("oath(0)", x.oath(0), FULL);
        due.is("cell(5, 2)", x.cell(5, 2), 9);
        due.is("day()", x.day(), 1);
        x.walk(1, 0);
        due.is("oath(1) where it is fallen", x.oath(1), LATE);
        due.is("cell(0, 2)", x.cell(0, 2), 0);
    }

    private static void doubtOfTerms(Due due) {
        PrayerTailings x = Due.told("M1C05090K050");
        for (int loose = 8; loose >= 0; loose--) {
            due.is("doubt(0)", x.doubt(0), loose);
            due.is("cell(5, 1)", x.cell(5, 1), loose);
        }
        due.is("doubt(0)", x.doubt(0), 0);
        due.is("cell(5, 1)", x.cell(5, 1), 0);
        due.is("about(4): a doubt has no waves", x.about(4), 0);
    }

    private static void walkOfTerms(Due due) {
        for (int from = 0; from < 12; from++) {
            for (int to = 0; to < 12; to++) {
                PrayerTailings x = Due.told("M1C00020K" + Due.two(from) + "0");
                boolean near = Due.far(from, to) == 1;
                due.is("walk from " + from + " to " + to, x.walk(0, to), near ? 0 : LATE);
                due.is("monk(0, 0)", x.monk(0, 0), near ? to : from);
                due.is("about(4): a walk has no waves", x.about(4), 0);
            }
        }
    }

    private static void dayIsOneMore(Due due) {
        PrayerTailings x = new PrayerTailings();
        for (int day = 1; day <= 200; day++) {
            x.day();
            due.is("about(2)", x.about(2), day);
        }
    }

    private static void echoesOfADay(Due due) {
        for (int cell = 0; cell < 12; cell++) {
            PrayerTailings x = Due.told("M9K" + Due.two(cell) + "0");
            x.pray(0);
            x.pray(0);
            x.pray(0);
            due.is("cell(" + cell + ", 1)", x.cell(cell, 1), 6);
            due.is("cell(" + cell + ", 3)", x.cell(cell, 3), 3);
            due.is("day()", x.day(), 0);
            due.is("cell(" + cell + ", 1): by its three echoes", x.cell(cell, 1), 9);
            due.is("cell(" + cell + ", 3)", x.cell(cell, 3), 0);
            due.is("day(): nothing echoes any more", x.day(), 0);
            due.is("cell(" + cell + ", 1)", x.cell(cell, 1), 9);
        }
        PrayerTailings x = Due.told("M3C06030K050");
        x.walk(0, 4);
        x.pray(0);
        due.is("about(4)", x.about(4), 0);
        x.doubt(0);
        x.pray(0);
        due.is("cell(4, 1)", x.cell(4, 1), 3);
        due.is("day(): then waves", x.day(), 1 << 4);
        due.loose(x, "behind it", 3, 0, 0, 0, 0, 3, 3, 0, 3, 0, 0, 0);
    }

    private static void whatIsAnAct(Due due) {
        PrayerTailings x = Due.told("M9C00003K000");
        int act = 0;
        due.is("about(7)", x.about(7), act);
        x.pray(0);
        due.is("about(7) behind a prayer", x.about(7), ++act);
        x.oath(0);
        due.is("about(7) behind an oath", x.about(7), ++act);
        x.doubt(0);
        due.is("about(7) behind a doubt", x.about(7), ++act);
        x.walk(0, 1);
        due.is("about(7) behind a walk", x.about(7), ++act);
        x.day();
        due.is("about(7) behind a day", x.about(7), ++act);
        x.falls(0);
        x.psalm(1, 0);
        x.best(1);
        x.bestAt(1, 0);
        x.oaths();
        x.down(0);
        x.see(0, 0);
        x.silent(0);
        x.chance(0, 5, true);
        x.unsee();
        x.seed(3);
        x.month(3, 5);
        x.keep(0);
        x.fault();
        x.write(1, 'K');
        x.wipe();
        due.is("about(7) behind what is no act", x.about(7), act);
    }

    private static void fourteenActs(Due due) {
        for (int days = 0; days <= 40; days++) {
            PrayerTailings x = Due.told("M9K000");
            for (int i = 0; i < days; i++) {
                x.day();
            }
            int acts = Math.min(days, 14);
            due.is("about(7) behind " + days, x.about(7), acts);
            for (int left = acts - 1; left >= 0; left--) {
                due.is("undo() behind " + days, x.undo(), left);
                due.is("about(2)", x.about(2), days - acts + left);
            }
            due.is("undo() behind " + days, x.undo(), LATE);
            due.is("about(2)", x.about(2), days - acts);
        }
    }

    /** One prayer ahead of the act that is undone. */
    private static PrayerTailings prayedOnce() {
        PrayerTailings x = Due.told("M3C00131C05322C11412C06511K000K051K060K110");
        x.keep(1);
        x.pray(3);
        return x;
    }

    private static void undone(Due due, String act, Consumer<PrayerTailings> done) {
        PrayerTailings x = prayedOnce();
        done.accept(x);
        due.is("the look changes by " + act, Due.look(x).equals(Due.look(prayedOnce())) ? 1 : 0, 0);
        due.is("undo() of " + act, x.undo(), 1);
        for (int what = 2; what <= 5; what++) {
            due.is("about(" + what + ") without " + act, x.about(what), 0);
        }
        int[][] cells = {{0, 1, 3, 1, 0, 0, 1}, {5, 3, 2, 2, 0, 0, 2}, {6, 5, 1, 1, 0, 0, 4}, {11, 4, 3, 2, 1, 0, 8}};
        for (int[] cell : cells) {
            for (int what = 0; what <= 5; what++) {
                due.is("cell(" + cell[0] + ", " + what + ") without " + act, x.cell(cell[0], what), cell[what + 1]);
            }
        }
        due.same("undo() of " + act + ", and what is behind it", Due.deep(x), Due.deep(prayedOnce()));
    }

    private static void everyActCanBeUndone(Due due) {
        undone(due, "a prayer by which a cell falls", x -> x.pray(1));
        undone(due, "a prayer", x -> x.pray(3));
        undone(due, "an oath", x -> x.oath(0));
        undone(due, "a doubt", x -> x.doubt(0));
        undone(due, "a walk", x -> x.walk(0, 1));
        undone(due, "a day", PrayerTailings::day);
        PrayerTailings x = Due.told("M8C05900C11290K050K060K110");
        x.oath(0);
        due.is("day()", x.day(), 1 << 11);
        due.is("about(3)", x.about(3), 2);
        due.is("about(5)", x.about(5), 4);
        due.is("undo()", x.undo(), 1);
        for (int what = 2; what <= 5; what++) {
            due.is("about(" + what + ")", x.about(what), 0);
        }
        due.is("cell(11, 0)", x.cell(11, 0), 2);
        due.is("monk(2, 2)", x.monk(2, 2), 0);
    }

    private static void prayTellsFalls(Due due) {
        PrayerTailings x = Due.told("M9C00090C02080C08080C11090K040K100");
        due.is("pray(0)", x.pray(0), 1);
        due.is("pray(1)", x.pray(1), 1 << 11);
        due.is("pray(0): not what fell ahead of it", x.pray(0), 1 << 8);
        due.is("pray(1): nothing", x.pray(1), 0);
        PrayerTailings far = Due.told("M1C11020K000");
        due.is("pray(0): its own, and what is far off", far.pray(0), 1 | 1 << 1 | 1 << 4 | 1 << 5 | 1 << 11);
    }

    private static void prayRefused(Due due) {
        Supplier<PrayerTailings> made = () -> {
            PrayerTailings x = Due.told("M8C05090K050K110");
            x.day();
            return x;
        };
        for (int monk : new int[] {-1, 2, 3, 4, 32, Integer.MIN_VALUE, Integer.MAX_VALUE}) {
            due.refused("pray(" + monk + ")", made, x -> x.pray(monk), UNKNOWN);
        }
        due.refused("pray(0) of none", () -> Due.told("M8"), x -> x.pray(0), UNKNOWN);
        due.refused("pray(0) buried", made, x -> x.pray(0), LATE);
        due.is("pray(1)", made.get().pray(1), 0);
        due.is("pray(3) of four", Due.told("M8K000K000K000K110").pray(3), 0);
    }

    private static void oathTellsProps(Due due) {
        PrayerTailings x = Due.told("M9C00000C11008K000K110");
        due.is("oath(0)", x.oath(0), 1);
        due.is("oath(0)", x.oath(0), 2);
        due.is("oath(1)", x.oath(1), 9);
        due.is("cell(0, 2)", x.cell(0, 2), 2);
        due.is("cell(11, 2)", x.cell(11, 2), 9);
    }

    private static void oathRefused(Due due) {
        Supplier<PrayerTailings> made = () -> {
            PrayerTailings x = Due.told("M8C05090K050K060");
            x.day();
            x.walk(1, 5);
            return x;
        };
        for (int monk : new int[] {-1, 2, 4, Integer.MIN_VALUE, Integer.MAX_VALUE}) {
            due.refused("oath(" + monk + ")", made, x -> x.oath(monk), UNKNOWN);
        }
        due.refused("oath(0) buried", made, x -> x.oath(0), LATE);
        due.refused("oath(1) where it is fallen", made, x -> x.oath(1), LATE);
    }

    private static void oathFull(Due due) {
        due.is("oath(0) of 8", Due.told("M8C05008K050").oath(0), 9);
        due.refused("oath(0) of 9", () -> Due.told("M8C05009K050"), x -> x.oath(0), FULL);
    }

    private static void doubtTellsLoose(Due due) {
        PrayerTailings x = Due.told("M8C00090C05020K050K010");
        due.is("doubt(0)", x.doubt(0), 1);
        due.is("doubt(0)", x.doubt(0), 0);
        due.is("doubt(0)", x.doubt(0), 0);
        due.is("about(7): it is an act all the same", x.about(7), 3);
        due.is("day()", x.day(), 1);
        x.walk(1, 0);
        due.is("doubt(1) where it is fallen", x.doubt(1), 0);
        due.is("about(7)", x.about(7), 6);
        due.is("cell(0, 1)", x.cell(0, 1), 0);
    }

    private static void doubtRefused(Due due) {
        Supplier<PrayerTailings> made = () -> {
            PrayerTailings x = Due.told("M8C05090K050K110");
            x.day();
            return x;
        };
        for (int monk : new int[] {-1, 2, 4, Integer.MIN_VALUE, Integer.MAX_VALUE}) {
            due.refused("doubt(" + monk + ")", made, x -> x.doubt(monk), UNKNOWN);
        }
        due.refused("doubt(0) buried", made, x -> x.doubt(0), LATE);
    }

    private static void walkTellsOthers(Due due) {
        PrayerTailings x = Due.told("M8K000K010K020K051");
        due.is("walk(3, 9): nobody", x.walk(3, 9), 0);
        due.is("walk(3, 5)", x.walk(3, 5), 0);
        due.is("walk(0, 1)", x.walk(0, 1), 2);
        due.is("walk(2, 1)", x.walk(2, 1), 3);
        due.is("walk(3, 1)", x.walk(3, 1), 7);
        PrayerTailings buried = Due.told("M8C01090K000K010K051");
        buried.day();
        due.is("walk(0, 1): a buried one", buried.walk(0, 1), 0);
        due.is("walk(2, 1): a buried one and another", buried.walk(2, 1), 1);
    }

    private static void walkRefused(Due due) {
        Supplier<PrayerTailings> made = () -> {
            PrayerTailings x = Due.told("M8C05090K050K030");
            x.day();
            return x;
        };
        for (int monk : new int[] {-1, 2, 4, Integer.MIN_VALUE, Integer.MAX_VALUE}) {
            due.refused("walk(" + monk + ", 1)", made, x -> x.walk(monk, 1), UNKNOWN);
        }
        for (int cell : new int[] {-1, 12, 34, 35, Integer.MIN_VALUE, Integer.MAX_VALUE}) {
            due.refused("walk(1, " + cell + ")", made, x -> x.walk(1, cell), UNKNOWN);
            due.refused("walk(0, " + cell + ") buried: told first", made, x -> x.walk(0, cell), UNKNOWN);
        }
        due.refused("walk(0, 1) buried", made, x -> x.walk(0, 1), LATE);
        due.refused("walk(1, 3): where it is", made, x -> x.walk(1, 3), LATE);
        due.refused("walk(1, 4): the next number, but a row on", made, x -> x.walk(1, 4), LATE);
        due.refused("walk(1, 6): across", made, x -> x.walk(1, 6), LATE);
        due.refused("walk(1, 1): two off", made, x -> x.walk(1, 1), LATE);
        due.is("walk(1, 2)", made.get().walk(1, 2), 0);
        due.is("walk(1, 7)", made.get().walk(1, 7), 0);
    }

    private static void dayTellsFalls(Due due) {
        PrayerTailings x = Due.told("M8C00090K050K110");
        due.is("day()", x.day(), 1);
        due.is("day(): not what fell ahead of it", x.day(), 0);
        for (int i = 0; i < 3; i++) {
            x.pray(1);
        }
        due.is("day()", x.day(), 1 << 11);
        due.is("day() of a new object", new PrayerTailings().day(), 0);
    }

    private static void undoTellsLeft(Due due) {
        PrayerTailings x = Due.told("M9K000");
        x.day();
        x.pray(0);
        x.day();
        due.is("undo()", x.undo(), 2);
        due.is("about(2)", x.about(2), 1);
        due.is("cell(0, 1)", x.cell(0, 1), 2);
        due.is("undo()", x.undo(), 1);
        due.is("about(2)", x.about(2), 1);
        due.is("cell(0, 1)", x.cell(0, 1), 0);
        x.day();
        due.is("undo(): the last one, done behind another undo", x.undo(), 1);
        due.is("undo()", x.undo(), 0);
        due.is("about(2)", x.about(2), 0);
    }

    private static void undoRefused(Due due) {
        due.is("undo() of a new object", new PrayerTailings().undo(), LATE);
        due.refused("undo() of nothing", () -> Due.told("M8C05123K050"), PrayerTailings::undo, LATE);
        due.refused("undo() when all is undone", () -> {
            PrayerTailings x = Due.told("M8C05123K050");
            x.day();
            x.undo();
            x.keep(0);
            return x;
        }, PrayerTailings::undo, LATE);
        due.refused("undo() behind again()", () -> {
            PrayerTailings x = Due.told("M8C05123K050");
            x.day();
            x.keep(0);
            x.day();
            x.again(0);
            return x;
        }, PrayerTailings::undo, LATE);
        PrayerTailings x = Due.told("M8K050");
        x.day();
        due.is("undo() of one", x.undo(), 0);
    }
}
