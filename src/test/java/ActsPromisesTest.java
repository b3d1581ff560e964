/** Promises 9 to 14: pray, oath, doubt, walk, day, undo. */
public final class ActsPromisesTest {
    private static final Due DUE = new Due("ActsPromisesTest");
    private static final int UNKNOWN = -1, LATE = -3, FULL = -4;

    public static void main(String[] args) {
        pray();
        prayOfTwoSects();
        prayOnFallenCell();
        waves();
        oath();
        doubt();
        walk();
        day();
        undo();
        undoOfMany();
        DUE.end();
    }

    private static void loose(PrayerTailings x, String when, int... due) {
        for (int cell = 0; cell < 12; cell++) {
            DUE.is("cell(" + cell + ", 1) " + when, x.cell(cell, 1), due[cell]);
        }
    }

    private static void pray() {
        PrayerTailings x = Due.told("M3K050K110");
        DUE.is("pray(0)", x.pray(0), 0);
        loose(x, "behind a prayer", 0, 1, 0, 0, 1, 2, 1, 0, 0, 1, 0, 0);
        DUE.is("cell(5, 3)", x.cell(5, 3), 1);
        DUE.is("cell(1, 3)", x.cell(1, 3), 0);
        DUE.is("about(7)", x.about(7), 1);
        DUE.is("pray(0)", x.pray(0), 1 << 5);
        loose(x, "behind a fall", 0, 3, 0, 0, 3, 0, 3, 0, 0, 3, 0, 0);
        DUE.is("cell(5, 3) fallen", x.cell(5, 3), 0);
        DUE.is("about(5)", x.about(5), 1);
        String before = Due.look(x);
        DUE.is("pray(0) buried", x.pray(0), LATE);
        DUE.is("pray(2)", x.pray(2), UNKNOWN);
        DUE.is("pray(-1)", x.pray(-1), UNKNOWN);
        DUE.is("pray(99)", x.pray(99), UNKNOWN);
        DUE.same("refused prayers", Due.look(x), before);
        DUE.is("pray(1)", x.pray(1), 0);
        loose(x, "in a corner", 0, 3, 0, 0, 3, 0, 3, 1, 0, 3, 1, 2);
        PrayerTailings propped = Due.told("M3C05001K050");
        propped.pray(0);
        DUE.is("pray(0): as loose as hold and props", propped.pray(0), 0);
        DUE.is("pray(0): looser", propped.pray(0), 1 << 5 | 1 << 1 | 1 << 4 | 1 << 6 | 1 << 9);
    }

    private static void prayOfTwoSects() {
        PrayerTailings x = Due.told("M9K050K061");
        x.pray(0);
        loose(x, "twice as much", 0, 2, 0, 0, 2, 4, 2, 0, 0, 2, 0, 0);
        DUE.is("cell(5, 3): one echo all the same", x.cell(5, 3), 1);
        x.pray(1);
        loose(x, "twice as much", 0, 2, 2, 0, 2, 6, 6, 2, 0, 2, 2, 0);
        PrayerTailings far = Due.told("M9K000K051K030");
        far.pray(0);
        loose(far, "the other sect is two cells off", 2, 1, 0, 0, 1, 0, 0, 0, 0, 0, 0, 0);
    }

    private static void prayOnFallenCell() {
        PrayerTailings x = Due.told("M3C00095K040");
        DUE.is("day()", x.day(), 1);
        x.walk(0, 0);
        DUE.is("monk(0, 2): who walks there is not buried", x.monk(0, 2), 0);
        DUE.is("pray(0)", x.pray(0), 0);
        loose(x, "from a fallen cell", 0, 2, 0, 0, 2, 0, 0, 0, 0, 0, 0, 0);
        DUE.is("cell(0, 2)", x.cell(0, 2), 0);
        DUE.is("cell(0, 3)", x.cell(0, 3), 0);
        x.pray(0);
        DUE.is("pray(0)", x.pray(0), 1 << 1 | 1 << 4);
        DUE.is("monk(0, 2)", x.monk(0, 2), 0);
        loose(x, "from a fallen cell", 0, 0, 1, 0, 0, 2, 0, 0, 1, 0, 0, 0);
    }

    private static void waves() {
        PrayerTailings x = Due.told("M1C05700C06520C07400K050K070K000");
        DUE.is("pray(0)", x.pray(0), 1911);
        loose(x, "behind three waves", 0, 0, 0, 1, 0, 0, 0, 1, 0, 0, 0, 1);
        DUE.is("about(3)", x.about(3), 12);
        DUE.is("about(6)", x.about(6), 4);
        DUE.is("about(5)", x.about(5), 5);
        // Those that fall at once don't loosen one another; what bears falls no more.
        PrayerTailings y = Due.told("M2K050K060");
        DUE.is("pray(0)", y.pray(0), 0);
        DUE.is("pray(1)", y.pray(1), 1 << 5 | 1 << 6);
        loose(y, "behind one wave", 0, 2, 2, 0, 2, 0, 0, 2, 0, 2, 2, 0);
        // What was too loose by the text comes down by any prayer.
        PrayerTailings z = Due.told("M9C11290C00099K050");
        DUE.is("pray(0)", z.pray(0), 0);
        PrayerTailings w = Due.told("M8C11290C00099K050");
        DUE.is("pray(0)", w.pray(0), 1 << 11);
        DUE.is("about(3)", w.about(3), 2);
    }

    private static void oath() {
        PrayerTailings x = Due.told("M3C00098C05090K000K010K050");
        DUE.is("oath(0)", x.oath(0), 9);
        DUE.is("about(7)", x.about(7), 1);
        DUE.is("about(4): an oath has no waves", x.about(4), 0);
        DUE.is("oath(0)", x.oath(0), FULL);
        DUE.is("oath(3)", x.oath(3), UNKNOWN);
        DUE.is("oath(-1)", x.oath(-1), UNKNOWN);
        DUE.is("oath(1)", x.oath(1), 1);
        DUE.is("oath(1)", x.oath(1), 2);
        DUE.is("cell(1, 2)", x.cell(1, 2), 2);
        DUE.is("day()", x.day(), 1 << 5);
        DUE.is("oath(2) buried", x.oath(2), LATE);
        x.walk(1, 5);
        DUE.is("oath(1) on a fallen cell", x.oath(1), LATE);
    }

    private static void doubt() {
        PrayerTailings x = Due.told("M1C05020C06090K050K060");
        DUE.is("doubt(0)", x.doubt(0), 1);
        DUE.is("doubt(0)", x.doubt(0), 0);
        DUE.is("doubt(0)", x.doubt(0), 0);
        DUE.is("about(7)", x.about(7), 3);
        DUE.is("doubt(1)", x.doubt(1), 8);
        DUE.is("about(4): a doubt has no waves", x.about(4), 0);
        DUE.is("doubt(2)", x.doubt(2), UNKNOWN);
        DUE.is("doubt(-1)", x.doubt(-1), UNKNOWN);
        DUE.is("day()", x.day(), 1 << 6);
        DUE.is("doubt(1) buried", x.doubt(1), LATE);
        x.walk(0, 6);
        DUE.is("doubt(0) on a fallen cell", x.doubt(0), 0);
        DUE.is("cell(6, 1)", x.cell(6, 1), 0);
        DUE.is("about(7)", x.about(7), 7);
    }

    private static void walk() {
        PrayerTailings x = Due.told("M3C01090K000K010K051");
        DUE.is("walk(3, 12)", x.walk(3, 12), UNKNOWN);
        DUE.is("walk(-1, 1)", x.walk(-1, 1), UNKNOWN);
        DUE.is("walk(0, 12)", x.walk(0, 12), UNKNOWN);
        DUE.is("walk(0, -1)", x.walk(0, -1), UNKNOWN);
        DUE.is("walk(0, 33)", x.walk(0, 33), UNKNOWN);
        DUE.is("walk(0, 0)", x.walk(0, 0), LATE);
        DUE.is("walk(0, 5)", x.walk(0, 5), LATE);
        DUE.is("about(7)", x.about(7), 0);
        DUE.is("walk(2, 1)", x.walk(2, 1), 2);
        DUE.is("walk(0, 1)", x.walk(0, 1), 6);
        DUE.is("cell(1, 5)", x.cell(1, 5), 7);
        DUE.is("walk(0, 2)", x.walk(0, 2), 0);
        DUE.is("walk(2, 5)", x.walk(2, 5), 0);
        DUE.is("about(7)", x.about(7), 4);
        DUE.is("day()", x.day(), 2);
        DUE.is("walk(1, 0) buried", x.walk(1, 0), LATE);
        DUE.is("walk(1, 12) buried", x.walk(1, 12), UNKNOWN);
        DUE.is("walk(0, 1): buried ones aside", x.walk(0, 1), 0);
        DUE.is("walk(2, 1)", x.walk(2, 1), 1);
        DUE.is("cell(1, 5)", x.cell(1, 5), 7);
        neighbours();
    }

    private static void neighbours() {
        for (int from = 0; from < 12; from++) {
            for (int to = 0; to < 12; to++) {
                PrayerTailings x = Due.told("M9K" + from / 10 + from % 10 + "0");
                boolean near = Math.abs(from / 4 - to / 4) + Math.abs(from % 4 - to % 4) == 1;
                DUE.is("walk from " + from + " to " + to, x.walk(0, to), near ? 0 : LATE);
                DUE.is("monk(0, 0)", x.monk(0, 0), near ? to : from);
            }
        }
    }

    private static void day() {
        PrayerTailings x = Due.told("M5K050K110");
        x.pray(0);
        x.pray(1);
        x.pray(0);
        DUE.is("cell(5, 3)", x.cell(5, 3), 2);
        DUE.is("day()", x.day(), 1 << 5);
        DUE.is("about(2)", x.about(2), 1);
        DUE.is("about(5)", x.about(5), 1);
        loose(x, "behind a day", 0, 3, 0, 0, 3, 0, 3, 1, 0, 3, 1, 3);
        DUE.is("cell(11, 3)", x.cell(11, 3), 0);
        DUE.is("day()", x.day(), 0);
        DUE.is("cell(11, 1)", x.cell(11, 1), 3);
        DUE.is("about(2)", x.about(2), 2);
        DUE.is("about(7)", x.about(7), 5);
        DUE.is("day() of an empty mine", new PrayerTailings().day(), 0);
    }

    private static PrayerTailings undoMine() {
        return Due.told("M1C05700C06520C07400K050K070K000");
    }

    private static void undone(PrayerTailings x, String what, PrayerTailings before, int left) {
        DUE.is("undo() of " + what, x.undo(), left);
        DUE.same("undo() of " + what, Due.look(x), Due.look(before));
    }

    private static void undo() {
        PrayerTailings x = undoMine();
        x.pray(0);
        undone(x, "a prayer", undoMine(), 0);
        x.oath(1);
        undone(x, "an oath", undoMine(), 0);
        PrayerTailings y = undoMine();
        y.walk(0, 6);
        PrayerTailings walked = undoMine();
        walked.walk(0, 6);
        y.doubt(0);
        undone(y, "a doubt", walked, 1);
        y.day();
        undone(y, "a day", walked, 1);
        undone(y, "a walk", undoMine(), 0);
        DUE.is("undo()", y.undo(), LATE);
        DUE.same("undo() of nothing", Due.look(y), Due.look(undoMine()));
        y.pray(2);
        y.pray(2);
        y.see(1, 1);
        y.seed(8);
        DUE.is("undo()", y.undo(), 0);
        DUE.is("about(8): what is seen is no act", y.about(8), 1);
        DUE.is("seed(0): nor is the seed", y.seed(0), 8);
    }

    private static void undoOfMany() {
        PrayerTailings x = Due.told("M9K050");
        for (int i = 0; i < 17; i++) {
            if (i % 2 == 0) {
                x.doubt(0);
            } else {
                x.day();
            }
            DUE.is("about(7) behind " + (i + 1), x.about(7), Math.min(14, i + 1));
        }
        for (int i = 16; i >= 3; i--) {
            DUE.is("undo()", x.undo(), i - 3);
            DUE.is("about(2)", x.about(2), i / 2);
        }
        DUE.is("undo()", x.undo(), LATE);
        DUE.is("day()", x.day(), 0);
        DUE.is("undo()", x.undo(), 0);
        DUE.is("about(2)", x.about(2), 1);
    }
}
