/** Promises 27 and 28: keep, again. */
public final class SlotsPromisesTest {
    private static final Due DUE = new Due("SlotsPromisesTest");
    private static final int UNKNOWN = -1, LATE = -3;

    public static void main(String[] args) {
        keepAndGoOn();
        refusals();
        twoSlots();
        DUE.end();
    }

    private static void keepAndGoOn() {
        PrayerTailings x = Due.told("M3C01530C04720C05001K050K111");
        x.pray(0);
        x.day();
        x.oath(1);
        x.pray(1);
        DUE.is("keep(0)", x.keep(0), 1);
        DUE.is("about(7): to keep is no act", x.about(7), 4);
        DUE.is("cell(11, 3)", x.cell(11, 3), 1);
        x.undo();
        x.pray(0);
        DUE.is("about(5)", x.about(5), 1);
        x.walk(1, 10);
        x.day();
        x.day();
        x.see(2, 2);
        x.seed(9);
        x.write(1, 'X');
        DUE.is("again(0)", x.again(0), 1);
        DUE.is("about(7)", x.about(7), 0);
        DUE.is("undo()", x.undo(), LATE);
        DUE.is("about(8)", x.about(8), 1);
        DUE.is("seed(0)", x.seed(0), 9);
        DUE.is("about(9)", x.about(9), 29);
        DUE.is("about(0)", x.about(0), 3);
        DUE.is("about(1)", x.about(1), 2);
        DUE.is("about(2)", x.about(2), 1);
        DUE.is("about(3)", x.about(3), 5);
        DUE.is("about(4)", x.about(4), 2);
        DUE.is("about(5)", x.about(5), 0);
        DUE.is("cell(11, 2)", x.cell(11, 2), 1);
        DUE.is("cell(11, 3)", x.cell(11, 3), 1);
        DUE.is("monk(1, 0)", x.monk(1, 0), 11);
        // What is kept stays kept, whatever is done behind it.
        String kept = Due.look(x);
        x.pray(1);
        x.day();
        DUE.is("again(0)", x.again(0), 1);
        DUE.same("again(0)", Due.look(x), kept);
    }

    private static void refusals() {
        PrayerTailings x = Due.told("M3K050");
        x.day();
        for (int slot : new int[] {-1, 2, 32, Integer.MAX_VALUE, Integer.MIN_VALUE}) {
            DUE.is("keep(" + slot + ")", x.keep(slot), UNKNOWN);
            DUE.is("again(" + slot + ")", x.again(slot), UNKNOWN);
        }
        DUE.is("again(0)", x.again(0), LATE);
        DUE.is("again(1)", x.again(1), LATE);
        DUE.is("about(7): refused, nothing changes", x.about(7), 1);
        DUE.is("keep(1)", x.keep(1), 1);
        DUE.is("again(0)", x.again(0), LATE);
        DUE.is("again(1)", x.again(1), 1);
        DUE.is("about(7)", x.about(7), 0);
    }

    private static void twoSlots() {
        PrayerTailings x = Due.told("M9K050");
        DUE.is("keep(0)", x.keep(0), 0);
        x.day();
        DUE.is("keep(1)", x.keep(1), 1);
        x.day();
        DUE.is("again(0)", x.again(0), 0);
        DUE.is("again(1)", x.again(1), 1);
        x.day();
        x.day();
        DUE.is("keep(0) over what was kept", x.keep(0), 3);
        DUE.is("again(1)", x.again(1), 1);
        DUE.is("again(0)", x.again(0), 3);
        DUE.is("about(2)", x.about(2), 3);
    }
}
