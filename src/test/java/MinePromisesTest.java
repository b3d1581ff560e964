/** Promises 1 to 8: a new object, write, wipe, fault, mine, about, cell, monk. */
public final class MinePromisesTest {
    private static final Due DUE = new Due("MinePromisesTest");
    private static final int UNKNOWN = -1, BAD = -2, LATE = -3, FULL = -4, NONE = -9;

    public static void main(String[] args) {
        newObject();
        constants();
        write();
        wipe();
        fault();
        faultOfManyParts();
        mine();
        about();
        cell();
        monk();
        DUE.end();
    }

    private static void newObject() {
        PrayerTailings x = new PrayerTailings();
        DUE.is("about(0)", x.about(0), 1);
        for (int what = 1; what < 10; what++) {
            DUE.is("about(" + what + ")", x.about(what), 0);
        }
        for (int cell = 0; cell < 12; cell++) {
            for (int what = 0; what < 6; what++) {
                DUE.is("cell(" + cell + ", " + what + ")", x.cell(cell, what), 0);
            }
        }
        DUE.is("monk(0, 0)", x.monk(0, 0), UNKNOWN);
        DUE.is("fault()", x.fault(), 0);
        DUE.is("undo()", x.undo(), LATE);
        DUE.is("again(0)", x.again(0), LATE);
        DUE.is("again(1)", x.again(1), LATE);
        DUE.is("unsee()", x.unsee(), 0);
        DUE.is("seed(5)", x.seed(5), 0);
        DUE.is("wipe()", x.wipe(), 0);
    }

    private static void constants() {
        DUE.is("UNKNOWN", PrayerTailings.UNKNOWN, UNKNOWN);
        DUE.is("BAD", PrayerTailings.BAD, BAD);
        DUE.is("LATE", PrayerTailings.LATE, LATE);
        DUE.is("FULL", PrayerTailings.FULL, FULL);
        DUE.is("NONE", PrayerTailings.NONE, NONE);
    }

    private static void write() {
        PrayerTailings x = new PrayerTailings();
        for (int n : new int[] {0, -1, 9, Integer.MAX_VALUE, Integer.MIN_VALUE}) {
            DUE.is("write(" + n + ")", x.write(n, 'M'), BAD);
        }
        // Only the lowest bytes come; the highest of them first.
        DUE.is("write(2)", x.write(2, 0x123400000000L | 'M' << 8 | '7'), 2);
        DUE.is("fault()", x.fault(), NONE);
        DUE.is("write(8)", x.write(8, 0x4B3031304B313131L), 10);
        DUE.is("mine()", x.mine(), 2);
        DUE.is("about(0)", x.about(0), 7);
        DUE.is("monk(0, 0)", x.monk(0, 0), 1);
        DUE.is("monk(1, 0)", x.monk(1, 0), 11);
        x.wipe();
        DUE.is("write(1, -1)", x.write(1, -1), 1);
        DUE.is("fault()", x.fault(), 0);
        x.wipe();
        for (int i = 1; i <= 8; i++) {
            DUE.is("write(8)", x.write(8, 0), 8 * i);
        }
        DUE.is("write(6)", x.write(6, 0), 70);
        DUE.is("write(9) at 70", x.write(9, 0), BAD);
        DUE.is("write(3) at 70", x.write(3, 0), FULL);
        DUE.is("about(9)", x.about(9), 70);
        DUE.is("write(2) at 70", x.write(2, 0), 72);
        DUE.is("write(1) at 72", x.write(1, 0), FULL);
        DUE.is("write(0) at 72", x.write(0, 0), BAD);
        DUE.is("about(9)", x.about(9), 72);
    }

    private static void wipe() {
        PrayerTailings x = Due.told("M4C05123K050");
        DUE.is("wipe()", x.wipe(), 12);
        DUE.is("wipe()", x.wipe(), 0);
        DUE.is("about(9)", x.about(9), 0);
        DUE.is("fault()", x.fault(), 0);
        // The mine that was told goes on.
        DUE.is("about(0)", x.about(0), 4);
        DUE.is("cell(5, 0)", x.cell(5, 0), 1);
        Due.write(x, "M2");
        DUE.is("mine()", x.mine(), 0);
        DUE.is("about(0)", x.about(0), 2);
    }

    private static void faultOf(String text, int want) {
        PrayerTailings x = new PrayerTailings();
        Due.write(x, text);
        DUE.is("fault() of " + text, x.fault(), want);
        DUE.is("about(9) of " + text, x.about(9), text.length());
        DUE.is("mine() of " + text, Math.min(x.mine(), 0), want == NONE ? 0 : LATE);
    }

    private static void fault() {
        faultOf("M", 1);
        faultOf("m1", 0);
        faultOf("1", 0);
        faultOf("\0", 0);
        faultOf("M0", 1);
        faultOf("M:", 1);
        faultOf("M\u00B1", 1);
        faultOf("MXX", 1);
        faultOf("M1", NONE);
        faultOf("M9", NONE);
        faultOf("M12", 2);
        faultOf("M1M", 2);
        faultOf("M1c", 2);
        faultOf("M1C", 3);
        faultOf("M1C2", 3);
        faultOf("M1C/", 3);
        faultOf("M1C0", 4);
        faultOf("M1C0/", 4);
        faultOf("M1C0:", 4);
        faultOf("M1C12", 4);
        faultOf("M1C1/", 4);
        faultOf("M1C11", 5);
        faultOf("M1C11/", 5);
        faultOf("M1C119", 6);
        faultOf("M1C119:", 6);
        faultOf("M1C1199", 7);
        faultOf("M1C1199K", 7);
        faultOf("M1C11999", NONE);
        faultOf("M1C09000", NONE);
        faultOf("M1K", 3);
        faultOf("M1K2", 3);
        faultOf("M1K12", 4);
        faultOf("M1K0:", 4);
        faultOf("M1K11", 5);
        faultOf("M1K112", 5);
        faultOf("M1K11/", 5);
        faultOf("M1K111", NONE);
        faultOf("M1K110", NONE);
        faultOf("M1K110K", 7);
        faultOf("M1K1105", 6);
    }

    private static void faultOfManyParts() {
        faultOf("M1C11999C11", 10);
        faultOf("M1C05000C0", 10);
        faultOf("M1C05000C05", 10);
        faultOf("M1C05000C06", 11);
        // With 10 and 11 told, no cell begins by 1; with one of them told, one does.
        faultOf("M1C11000C10000C1", 15);
        faultOf("M1C11000C10000C0", 16);
        faultOf("M1C11000C09000C1", 16);
        faultOf("M1C11000C10000K11", 17);
        faultOf("M1C11000C10000K110K110", NONE);
        String eight = "M1C00000C01000C02000C03000C04000C05000C06000C07000";
        faultOf(eight, NONE);
        faultOf(eight + "C", 50);
        faultOf(eight + "CC", 50);
        faultOf(eight + "K", 51);
        String four = "M1K000K000K001K111";
        faultOf(four, NONE);
        faultOf(four + "K", 18);
        faultOf(four + "C", 19);
        String all = eight + "K000K000K001K111";
        faultOf(all, NONE);
        faultOf(all + "C", 66);
        faultOf(all + "K", 66);
        faultOf("M1K000C00000K000C01000", NONE);
    }

    private static void mine() {
        PrayerTailings x = Due.told("M9C05432K050K061");
        x.pray(0);
        x.day();
        x.keep(0);
        x.keep(1);
        x.see(3, 4);
        x.seed(77);
        x.wipe();
        Due.write(x, "M5K");
        String before = Due.look(x);
        DUE.is("mine() with a fault", x.mine(), LATE);
        DUE.same("mine() with a fault", Due.look(x), before);
        DUE.is("again(1) behind it", x.again(1), 1);
        DUE.is("write", x.write(3, '0' << 16 | '9' << 8 | '1'), 6);
        DUE.is("mine()", x.mine(), 1);
        DUE.is("about(0)", x.about(0), 5);
        DUE.is("about(1)", x.about(1), 1);
        DUE.is("about(2)", x.about(2), 0);
        DUE.is("about(6)", x.about(6), 0);
        DUE.is("about(7)", x.about(7), 0);
        DUE.is("about(8)", x.about(8), 1);
        DUE.is("about(9)", x.about(9), 6);
        DUE.is("cell(5, 1)", x.cell(5, 1), 0);
        DUE.is("cell(5, 2)", x.cell(5, 2), 0);
        DUE.is("monk(0, 0)", x.monk(0, 0), 9);
        DUE.is("monk(0, 1)", x.monk(0, 1), 1);
        DUE.is("monk(1, 0)", x.monk(1, 0), UNKNOWN);
        DUE.is("again(0)", x.again(0), LATE);
        DUE.is("again(1)", x.again(1), LATE);
        DUE.is("undo()", x.undo(), LATE);
        DUE.is("seed(0)", x.seed(0), 77);
        // The same text can be told again behind a fall.
        PrayerTailings y = Due.told("M1C05090K050");
        y.pray(0);
        DUE.is("monk(0, 2)", y.monk(0, 2), 1);
        DUE.is("about(7)", y.about(7), 1);
        DUE.is("mine() again", y.mine(), 1);
        DUE.is("about(7)", y.about(7), 0);
        DUE.is("undo()", y.undo(), LATE);
        DUE.is("monk(0, 2)", y.monk(0, 2), 0);
        DUE.is("about(4)", y.about(4), 0);
        DUE.is("cell(5, 1): what is too loose stays up", y.cell(5, 1), 9);
        nothingIsLeftOver();
    }

    private static void nothingIsLeftOver() {
        PrayerTailings x = Due.told("M9C00123C11456K001K111");
        x.wipe();
        Due.write(x, "M3");
        DUE.is("mine()", x.mine(), 0);
        PrayerTailings empty = Due.told("M3");
        DUE.same("mine() behind another", Due.look(x), Due.look(empty));
    }

    private static void about() {
        PrayerTailings x = Due.told("M2C05900C00700K050K110K111");
        DUE.is("pray(0)", x.pray(0), 0);
        DUE.is("pray(0)", x.pray(0), 1 << 5 | 1 << 1 | 1 << 4 | 1 << 6 | 1 << 9);
        x.walk(1, 10);
        x.day();
        x.see(0, 0);
        int[] due = {2, 3, 1, 9, 1 << 5 | 1 << 1 | 1 << 4 | 1 << 6 | 1 << 9, 1, 7, 4, 1, 26};
        for (int what = 0; what < due.length; what++) {
            DUE.is("about(" + what + ")", x.about(what), due[what]);
        }
        DUE.is("about(-1)", x.about(-1), BAD);
        DUE.is("about(10)", x.about(10), BAD);
    }

    private static void cell() {
        PrayerTailings x = Due.told("M9C05123K050K051K060");
        int[] due = {1, 2, 3, 0, 0, 3};
        for (int what = 0; what < due.length; what++) {
            DUE.is("cell(5, " + what + ")", x.cell(5, what), due[what]);
        }
        DUE.is("pray(2)", x.pray(2), 0);
        DUE.is("cell(6, 1)", x.cell(6, 1), 4);
        DUE.is("cell(6, 3)", x.cell(6, 3), 1);
        DUE.is("cell(5, 1)", x.cell(5, 1), 4);
        DUE.is("cell(5, 3)", x.cell(5, 3), 0);
        DUE.is("pray(0)", x.pray(0), 0);
        DUE.is("pray(0)", x.pray(0), 0);
        DUE.is("pray(0)", x.pray(0), 1 << 5 | 1 << 6);
        int[] fallen = {0, 0, 0, 0, 1, 3};
        for (int what = 0; what < fallen.length; what++) {
            DUE.is("cell(5, " + what + ") fallen", x.cell(5, what), fallen[what]);
        }
        DUE.is("cell(-1, 0)", x.cell(-1, 0), UNKNOWN);
        DUE.is("cell(12, 0)", x.cell(12, 0), UNKNOWN);
        DUE.is("cell(12, 9)", x.cell(12, 9), UNKNOWN);
        DUE.is("cell(11, -1)", x.cell(11, -1), BAD);
        DUE.is("cell(11, 6)", x.cell(11, 6), BAD);
    }

    private static void monk() {
        PrayerTailings x = Due.told("M1K050K060K111K031");
        int[][] due = {{5, 0, 0, 1}, {6, 0, 0, 1}, {11, 1, 0, 1}, {3, 1, 0, 1}};
        for (int monk = 0; monk < 4; monk++) {
            for (int what = 0; what < 4; what++) {
                DUE.is("monk(" + monk + ", " + what + ")", x.monk(monk, what), due[monk][what]);
            }
        }
        // 3 and 4 stand next to each other as numbers, not in the mine.
        PrayerTailings rows = Due.told("M9K030K041K070K081");
        DUE.is("monk(0, 3)", rows.monk(0, 3), 1);
        DUE.is("monk(1, 3)", rows.monk(1, 3), 1);
        PrayerTailings near = Due.told("M9K050K061K091K050");
        for (int monk = 0; monk < 4; monk++) {
            DUE.is("monk(" + monk + ", 3) near", near.monk(monk, 3), 2);
        }
        PrayerTailings shared = Due.told("M9K050K051");
        DUE.is("monk(0, 3) on one cell", shared.monk(0, 3), 2);
        // A buried one of the other sect counts no more.
        PrayerTailings lone = Due.told("M3C06040K050K061");
        DUE.is("falls", lone.pray(1) & 1 << 6, 1 << 6);
        DUE.is("monk(1, 2)", lone.monk(1, 2), 1);
        DUE.is("monk(1, 3)", lone.monk(1, 3), 0);
        DUE.is("monk(0, 2)", lone.monk(0, 2), 0);
        DUE.is("monk(0, 3)", lone.monk(0, 3), 1);
        // The cell may have fallen.
        PrayerTailings walked = Due.told("M3C00090K040K051");
        DUE.is("day()", walked.day(), 1);
        DUE.is("walk(0, 0)", walked.walk(0, 0), 0);
        DUE.is("monk(0, 3) on a fallen cell", walked.monk(0, 3), 1);
        walked.walk(1, 1);
        DUE.is("monk(0, 3) on a fallen cell, two sects", walked.monk(0, 3), 2);
        DUE.is("monk(4, 0)", x.monk(4, 0), UNKNOWN);
        DUE.is("monk(-1, 0)", x.monk(-1, 0), UNKNOWN);
        DUE.is("monk(4, 9)", x.monk(4, 9), UNKNOWN);
        DUE.is("monk(3, 4)", x.monk(3, 4), BAD);
        DUE.is("monk(3, -1)", x.monk(3, -1), BAD);
    }
}
