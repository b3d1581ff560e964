/** Promises 15 to 20: falls, psalm, best, bestAt, oaths, down. */
public final class PsalmsPromisesTest {
    private static final Due DUE = new Due("PsalmsPromisesTest");
    private static final int UNKNOWN = -1, BAD = -2, LATE = -3, NONE = -9;

    public static void main(String[] args) {
        falls();
        psalm();
        best();
        bestOfLikeOnes();
        oaths();
        down();
        DUE.end();
    }

    private static void falls() {
        PrayerTailings x = Due.told("M1C05700C06520C07400K050K070K110");
        String before = Due.look(x);
        DUE.is("falls(0)", x.falls(0), 1911);
        DUE.is("falls(0)", x.falls(0), 1911);
        DUE.is("falls(3)", x.falls(3), UNKNOWN);
        DUE.is("falls(-1)", x.falls(-1), UNKNOWN);
        DUE.same("falls", Due.look(x), before);
        DUE.is("pray(0)", x.pray(0), 1911);
        DUE.is("falls(0) buried", x.falls(0), LATE);
        DUE.is("falls(2): only what falls by it", x.falls(2), 1 << 11 | 1 << 7 | 1 << 3);
        DUE.is("falls(0) of none", Due.told("M9").falls(0), UNKNOWN);
    }

    private static void psalm() {
        PrayerTailings x = Due.told("M5K050K060");
        String before = Due.look(x);
        DUE.is("psalm 0", x.psalm(1, 0), NONE);
        DUE.is("psalm 00", x.psalm(2, 0), NONE);
        DUE.is("psalm 000", x.psalm(3, 0), 2);
        DUE.is("psalm 001", x.psalm(3, 1), NONE);
        DUE.is("psalm 0011", x.psalm(4, 11), 3);
        DUE.is("psalm 20", x.psalm(2, 20), 0);
        DUE.is("psalm 02", x.psalm(2, 2), 1);
        DUE.is("psalm 00000000", x.psalm(8, 0), 2);
        DUE.is("psalm 99999999", x.psalm(8, 99999999), 0);
        DUE.is("psalm 10000009", x.psalm(8, 1), 2);
        DUE.is("psalm(0, 0)", x.psalm(0, 0), BAD);
        DUE.is("psalm(9, 0)", x.psalm(9, 0), BAD);
        DUE.is("psalm(1, 10)", x.psalm(1, 10), BAD);
        DUE.is("psalm(2, 100)", x.psalm(2, 100), BAD);
        DUE.is("psalm(8, 100000000)", x.psalm(8, 100000000), BAD);
        DUE.is("psalm(8, MAX)", x.psalm(8, Integer.MAX_VALUE), BAD);
        DUE.is("psalm(8, -1)", x.psalm(8, -1), BAD);
        DUE.is("psalm(8, MIN)", x.psalm(8, Integer.MIN_VALUE), BAD);
        DUE.same("psalms", Due.look(x), before);
        // One that was buried before can't pray; that it was does not break the others' prayers.
        PrayerTailings y = Due.told("M5C00090K000K110");
        y.day();
        DUE.is("monk(0, 2)", y.monk(0, 2), 1);
        DUE.is("psalm 11", y.psalm(2, 11), NONE);
        DUE.is("psalm 10", y.psalm(2, 10), 1);
        // A prayer may bury another monk.
        PrayerTailings z = Due.told("M3C06030K050K060");
        DUE.is("psalm 0", z.psalm(1, 0), 0);
        DUE.is("psalm 0 of none", Due.told("M9").psalm(1, 0), 0);
    }

    private static void bestIs(PrayerTailings x, int n, int want, int... monks) {
        DUE.is("best(" + n + ")", x.best(n), want);
        for (int i = 0; i < n; i++) {
            int due = want == NONE ? NONE : monks[i];
            DUE.is("bestAt(" + n + ", " + i + ")", x.bestAt(n, i), due);
        }
        DUE.is("bestAt(" + n + ", -1)", x.bestAt(n, -1), NONE);
        DUE.is("bestAt(" + n + ", " + n + ")", x.bestAt(n, n), NONE);
    }

    private static void best() {
        PrayerTailings x = Due.told("M3C01530C07930K050K110");
        bestIs(x, 1, 9, 1);
        bestIs(x, 2, 14, 0, 1);
        bestIs(x, 3, NONE);
        x.pray(1);
        DUE.is("about(3)", x.about(3), 9);
        bestIs(x, 1, 5, 0);
        bestIs(x, 2, NONE);
        for (int n : new int[] {0, 4, -1, Integer.MAX_VALUE, Integer.MIN_VALUE}) {
            DUE.is("best(" + n + ")", x.best(n), BAD);
            DUE.is("bestAt(" + n + ", 0)", x.bestAt(n, 0), BAD);
            DUE.is("bestAt(" + n + ", -1)", x.bestAt(n, -1), BAD);
        }
        bestIs(Due.told("M9"), 1, NONE);
        // One that was buried ahead of it does not count.
        PrayerTailings y = Due.told("M5C00090K000K110");
        y.day();
        bestIs(y, 1, 0, 1);
        bestIs(y, 2, 0, 1, 1);
    }

    private static void bestOfLikeOnes() {
        bestIs(Due.told("M9K050K060K110K000"), 3, 0, 0, 0, 0);
        bestIs(Due.told("M3C01530C04720K050K110"), 1, 5, 0);
        bestIs(Due.told("M3C01530C04720K050K110"), 2, 5, 0, 1);
        // Monk 0 would be buried by its own prayer.
        bestIs(Due.told("M1C06000K000K110"), 1, NONE);
        bestIs(Due.told("M3C00030K000K110"), 1, 0, 1);
        PrayerTailings two = Due.told("M3C01530C07930C08030K080K080K050K110");
        bestIs(two, 1, 9, 3);
        bestIs(two, 2, 14, 2, 3);
        bestIs(two, 3, NONE);
        bestIs(Due.told("M3C01530C02420C09730C11030K110K000K030K080"), 3, 16, 1, 2, 3);
    }

    private static void oaths() {
        DUE.is("oaths() of one", Due.told("M1K000").oaths(), 1);
        DUE.is("oaths() with what is too loose", Due.told("M1C11050K000").oaths(), 5);
        DUE.is("oaths() of two sects", Due.told("M1K000K011").oaths(), 13);
        DUE.is("oaths() of one sect", Due.told("M1K000K010").oaths(), 2 + 2);
        DUE.is("oaths() if nobody prays", Due.told("M1C11050").oaths(), 0);
        DUE.is("oaths() if all holds", Due.told("M9K000").oaths(), 0);
        DUE.is("oaths() beyond nine props", Due.told("M1C00099K000").oaths(), 1);
        PrayerTailings x = Due.told("M1C00090K040K110");
        x.day();
        x.walk(0, 0);
        String before = Due.look(x);
        DUE.is("oaths() from a fallen cell", x.oaths(), 1 + 1 + 1);
        DUE.same("oaths()", Due.look(x), before);
        PrayerTailings y = Due.told("M1C00090C11090K000");
        DUE.is("pray(0)", y.pray(0) & 1, 1);
        DUE.is("oaths() of the buried", y.oaths(), 0);
    }

    private static void down() {
        PrayerTailings x = Due.told("M9K000");
        String before = Due.look(x);
        DUE.is("down(0)", x.down(0), 4);
        DUE.is("down(1)", x.down(1), NONE);
        DUE.is("down(4)", x.down(4), NONE);
        DUE.is("down(12)", x.down(12), UNKNOWN);
        DUE.is("down(-1)", x.down(-1), UNKNOWN);
        DUE.same("down", Due.look(x), before);
        PrayerTailings y = Due.told("M3C05090");
        DUE.is("down(5): a day has waves", y.down(5), 1);
        DUE.is("down(1)", y.down(1), NONE);
        y.day();
        DUE.is("down(5): it is fallen", y.down(5), 0);
        // From a fallen cell a monk loosens by one a day, and is never buried.
        PrayerTailings w = Due.told("M9C00090C01009C04009K010");
        w.pray(0);
        DUE.is("about(4)", w.about(4), 1);
        w.walk(0, 0);
        DUE.is("down(4)", w.down(4), 18);
        // Echoes that were there count from the first day's end on.
        PrayerTailings e = Due.told("M5K000K110");
        e.pray(0);
        e.pray(0);
        e.walk(0, 1);
        DUE.is("down(0)", e.down(0), 1);
    }
}
