/**
 * A silver mine in which each prayer loosens stones: told as a text, worked by acts that can be undone,
 * asked what prayers would bring. ../shared/DOC.md says by numbered promises what each call answers.
 */
public final class PrayerTailings {
    public static final int UNKNOWN = -1, BAD = -2, LATE = -3, FULL = -4, NONE = -9;

    private static final int CELLS = 12, MONKS = 4;
    private static final int LOOSE_MOST = 99, PROPS_MOST = 9, SEEN_FALLEN = 100;
    private static final int TEXT_MOST = 72, WRITE_MOST = 8;
    private static final int ACTS_MOST = 14, SEEN_MOST = 6, SLOTS = 2;
    private static final int PSALM_MOST = 8, BEST_MOST = 3, DAYS_MOST = 30, TENTHS = 10;
    private static final long SEED_TIMES = 6364136223846793005L, SEED_MORE = 1442695040888963407L;
    private static final int SEED_SHIFT = 33;

    /** The neighbours of each cell, as bits: four columns, three rows. */
    private static final int[] NEAR = {
        0x012, 0x025, 0x04A, 0x084,
        0x121, 0x252, 0x4A4, 0x848,
        0x210, 0x520, 0xA40, 0x480,
    };

    private final int[] text = new int[TEXT_MOST];
    private int length;
    private final Reader reader = new Reader();
    private final Mine now = new Mine();
    /** What is tried out without a change of the mine; each call begins with a fresh copy. */
    private final Mine trial = new Mine();
    private final int[] song = new int[PSALM_MOST];
    /** The mine as it was ahead of each act, the oldest first. */
    private final Mine[] past = new Mine[ACTS_MOST];
    private int acts;
    private final Mine[] slots = new Mine[SLOTS];
    private int kept;
    private final int[] seenCells = new int[SEEN_MOST];
    private final int[] seenLoose = new int[SEEN_MOST];
    private int seen;
    private long seedNow;

    public PrayerTailings() {
        for (int i = 0; i < past.length; i++) {
            past[i] = new Mine();
        }
        for (int i = 0; i < slots.length; i++) {
            slots[i] = new Mine();
        }
    }

    // ---- the mine

    public int write(int n, long v) {
        if (n < 1 || n > WRITE_MOST) {
            return BAD;
        }
        if (length + n > TEXT_MOST) {
            return FULL;
        }
        for (int left = n - 1; left >= 0; left--) {
            put(text, length, (int) (v >>> 8 * left) & 255);
            length++;
        }
        return length;
    }

    public int wipe() {
        int was = length;
        length = 0;
        return was;
    }

    public int fault() {
        return readText();
    }

    public int mine() {
        if (readText() != NONE) {
            return LATE;
        }
        now.take(reader.draft);
        acts = 0;
        kept = 0;
        return now.monks;
    }

    public int about(int what) {
        switch (what) {
            case 0: return now.hold;
            case 1: return now.monks;
            case 2: return now.days;
            case 3: return now.taken;
            case 4: return now.fallen;
            case 5: return now.buried;
            case 6: return now.oreLeft();
            case 7: return acts;
            case 8: return seen;
            case 9: return length;
            default: return BAD;
        }
    }

    public int cell(int cell, int what) {
        if (!isCell(cell)) {
            return UNKNOWN;
        }
        switch (what) {
            case 0: return at(now.ore, cell);
            case 1: return at(now.loose, cell);
            case 2: return at(now.props, cell);
            case 3: return at(now.echoes, cell);
            case 4: return now.isFallen(cell) ? 1 : 0;
            case 5: return now.monksOn(1 << cell);
            default: return BAD;
        }
    }

    public int monk(int monk, int what) {
        if (!now.isMonk(monk)) {
            return UNKNOWN;
        }
        switch (what) {
            case 0: return now.placeOf(monk);
            case 1: return now.sects >> monk & 1;
            case 2: return now.buried >> monk & 1;
            case 3: return now.forceOf(monk);
            default: return BAD;
        }
    }

    // ---- acts

    public int pray(int monk) {
        if (!now.isMonk(monk)) {
            return UNKNOWN;
        }
        if (!now.isLiving(monk)) {
            return LATE;
        }
        remember();
        return now.prayer(monk);
    }

    public int oath(int monk) {
        if (!now.isMonk(monk)) {
            return UNKNOWN;
        }
        int place = now.placeOf(monk);
        if (!now.isLiving(monk) || now.isFallen(place)) {
            return LATE;
        }
        int props = at(now.props, place);
        if (props >= PROPS_MOST) {
            return FULL;
        }
        remember();
        put(now.props, place, props + 1);
        return props + 1;
    }

    public int doubt(int monk) {
        if (!now.isMonk(monk)) {
            return UNKNOWN;
        }
        if (!now.isLiving(monk)) {
            return LATE;
        }
        remember();
        int place = now.placeOf(monk);
        int loose = Math.max(0, at(now.loose, place) - 1);
        put(now.loose, place, loose);
        return loose;
    }

    public int walk(int monk, int cell) {
        if (!now.isMonk(monk) || !isCell(cell)) {
            return UNKNOWN;
        }
        if (!now.isLiving(monk) || !has(at(NEAR, now.placeOf(monk)), cell)) {
            return LATE;
        }
        remember();
        put(now.places, monk, cell);
        return now.monksOn(1 << cell) & now.living() & ~(1 << monk);
    }

    public int day() {
        remember();
        return now.endDay();
    }

    public int undo() {
        if (acts < 1 || acts > past.length) {
            return LATE;
        }
        acts--;
        now.take(past[acts]);
        return acts;
    }

    // ---- psalms

    public int falls(int monk) {
        if (!now.isMonk(monk)) {
            return UNKNOWN;
        }
        if (!now.isLiving(monk)) {
            return LATE;
        }
        trial.take(now);
        return trial.prayer(monk);
    }

    public int psalm(int n, int row) {
        if (n < 1 || n > PSALM_MOST || row < 0) {
            return BAD;
        }
        int rest = row;
        for (int i = n - 1; i >= 0; i--) {
            put(song, i, rest % 10);
            rest /= 10;
        }
        return rest != 0 ? BAD : breakOf(n);
    }

    public int best(int n) {
        if (n < 1 || n > BEST_MOST) {
            return BAD;
        }
        int code = bestCode(n);
        if (code == NONE) {
            return NONE;
        }
        setSong(n, code);
        breakOf(n);
        return trial.taken - now.taken;
    }

    public int bestAt(int n, int i) {
        if (n < 1 || n > BEST_MOST) {
            return BAD;
        }
        if (i < 0 || i >= n) {
            return NONE;
        }
        int code = bestCode(n);
        return code == NONE ? NONE : figureOf(n, code, i);
    }

    public int oaths() {
        int living = now.living();
        if (living == 0) {
            return 0;
        }
        // With props enough nothing falls and nobody is buried, so the prayers only add up.
        trial.take(now);
        for (int monk = 0; monk < MONKS; monk++) {
            if (has(living, monk)) {
                trial.loosenBy(monk);
            }
        }
        return trial.propsWanting();
    }

    public int down(int cell) {
        if (!isCell(cell)) {
            return UNKNOWN;
        }
        trial.take(now);
        for (int days = 0; days <= DAYS_MOST; days++) {
            if (trial.isFallen(cell)) {
                return days;
            }
            trial.prayAll((1 << MONKS) - 1);
            trial.endDay();
        }
        return NONE;
    }

    // ---- seen

    public int see(int cell, int d) {
        if (!isCell(cell)) {
            return UNKNOWN;
        }
        if (d < 0 || d > SEEN_FALLEN) {
            return BAD;
        }
        if (seen >= SEEN_MOST) {
            return FULL;
        }
        put(seenCells, seen, cell);
        put(seenLoose, seen, d);
        seen++;
        return seen;
    }

    public int unsee() {
        int was = seen;
        seen = 0;
        return was;
    }

    public int silent(int what) {
        if (what != 0 && what != 1) {
            return BAD;
        }
        int living = now.living();
        int sets = 0;
        int surely = living;
        for (int set = 0; set < 1 << MONKS; set++) {
            if ((set & ~living) == 0 && isSeenBy(set)) {
                sets++;
                surely &= set;
            }
        }
        if (what == 0) {
            return sets;
        }
        return sets == 0 ? NONE : surely;
    }

    public int chance(int cell, int x, boolean upper) {
        if (!isCell(cell)) {
            return UNKNOWN;
        }
        if (x < 0 || x > TENTHS) {
            return BAD;
        }
        int living = now.living();
        int part = 0;
        int whole = 0;
        for (int set = 0; set < 1 << MONKS; set++) {
            if ((set & ~living) == 0) {
                int weight = weightOf(set, living, x);
                whole += weight;
                trial.take(now);
                trial.prayAll(set);
                part += trial.isFallen(cell) ? weight : 0;
            }
        }
        int shared = commonDivisor(part, whole);
        if (shared == 0) {
            return 0;
        }
        return (upper ? part : whole) / shared;
    }

    public long seed(long v) {
        long was = seedNow;
        seedNow = v;
        return was;
    }

    public int month(int m, int t) {
        if (m < 1 || m > DAYS_MOST || t < 0 || t > TENTHS) {
            return BAD;
        }
        trial.take(now);
        for (int d = 0; d < m; d++) {
            for (int monk = 0; monk < MONKS; monk++) {
                if (trial.isLiving(monk) && nextTenth() < t) {
                    trial.prayer(monk);
                }
            }
            trial.endDay();
        }
        return trial.taken;
    }

    // ---- slots

    public int keep(int slot) {
        if (slot < 0 || slot >= slots.length) {
            return UNKNOWN;
        }
        Mine place = slots[slot];
        if (place != null) {
            place.take(now);
        }
        kept |= 1 << slot;
        return now.days;
    }

    public int again(int slot) {
        if (slot < 0 || slot >= slots.length) {
            return UNKNOWN;
        }
        if (!has(kept, slot)) {
            return LATE;
        }
        now.take(slots[slot]);
        acts = 0;
        return now.days;
    }

    // ---- inside

    private static boolean isCell(int cell) {
        return cell >= 0 && cell < CELLS;
    }

    private static boolean has(int bits, int i) {
        return (bits >> i & 1) != 0;
    }

    private static int at(int[] row, int i) {
        return i >= 0 && i < row.length ? row[i] : 0;
    }

    private static void put(int[] row, int i, int value) {
        if (i >= 0 && i < row.length) {
            row[i] = value;
        }
    }

    /** Reads the text into the reader's draft; answers the first fault. */
    private int readText() {
        reader.start();
        for (int i = 0; i < length; i++) {
            if (!reader.accepts(at(text, i))) {
                return i;
            }
        }
        return reader.mayEnd() ? NONE : length;
    }

    /** Keeps the mine as it is ahead of an act; the oldest of a full row makes room. */
    private void remember() {
        if (acts >= past.length) {
            for (int i = 1; i < past.length; i++) {
                Mine oldest = past[i - 1];
                past[i - 1] = past[i];
                past[i] = oldest;
            }
            acts--;
        }
        if (acts >= 0 && acts < past.length) {
            Mine place = past[acts];
            if (place != null) {
                place.take(now);
            }
            acts++;
        }
    }

    /** Sings the first n prayers of the song in the trial; answers where it breaks, or NONE. */
    private int breakOf(int n) {
        trial.take(now);
        for (int i = 0; i < n; i++) {
            int monk = at(song, i);
            if (!trial.isLiving(monk)) {
                return i;
            }
            trial.prayer(monk);
            if (trial.buried != now.buried) {
                return i;
            }
        }
        return NONE;
    }

    /** The code of the best psalm of n: two bits a monk, the first one highest, so codes are in order. */
    private int bestCode(int n) {
        int most = -1;
        int code = NONE;
        for (int tried = 0; tried < 1 << 2 * n; tried++) {
            setSong(n, tried);
            if (breakOf(n) == NONE && trial.taken > most) {
                most = trial.taken;
                code = tried;
            }
        }
        return code;
    }

    private void setSong(int n, int code) {
        for (int i = 0; i < n; i++) {
            put(song, i, figureOf(n, code, i));
        }
    }

    private static int figureOf(int n, int code, int i) {
        return code >> 2 * (n - 1 - i) & 3;
    }

    private boolean isSeenBy(int set) {
        trial.take(now);
        trial.prayAll(set);
        for (int i = 0; i < seen; i++) {
            int cell = at(seenCells, i);
            int d = trial.isFallen(cell) ? SEEN_FALLEN : at(trial.loose, cell);
            if (d != at(seenLoose, i)) {
                return false;
            }
        }
        return true;
    }

    /** How likely it is that of the living just those of the set pray, in tenths of tenths. */
    private static int weightOf(int set, int living, int x) {
        int weight = 1;
        for (int monk = 0; monk < MONKS; monk++) {
            if (has(living, monk)) {
                weight *= has(set, monk) ? x : TENTHS - x;
            }
        }
        return weight;
    }

    private static int commonDivisor(int a, int b) {
        int big = a;
        int small = b;
        // Euclid needs far fewer steps than an int has bits, times two.
        for (int step = 0; step < 64 && small != 0; step++) {
            int rest = big % small;
            big = small;
            small = rest;
        }
        return big;
    }

    private int nextTenth() {
        seedNow = seedNow * SEED_TIMES + SEED_MORE;
        return (int) ((seedNow >>> SEED_SHIFT) % TENTHS);
    }

    /** All that a slot keeps and an undo brings back, and how prayers and days change it. */
    private static final class Mine {
        final int[] ore = new int[CELLS];
        final int[] loose = new int[CELLS];
        final int[] props = new int[CELLS];
        final int[] echoes = new int[CELLS];
        final int[] places = new int[MONKS];
        int hold = 1;
        int monks;
        int sects;
        int buried;
        int fallen;
        int taken;
        int days;

        void clear() {
            for (int cell = 0; cell < CELLS; cell++) {
                empty(cell);
            }
            hold = 1;
            monks = 0;
            sects = 0;
            buried = 0;
            fallen = 0;
            taken = 0;
            days = 0;
        }

        void take(Mine other) {
            if (other == null) {
                return;
            }
            System.arraycopy(other.ore, 0, ore, 0, CELLS);
            System.arraycopy(other.loose, 0, loose, 0, CELLS);
            System.arraycopy(other.props, 0, props, 0, CELLS);
            System.arraycopy(other.echoes, 0, echoes, 0, CELLS);
            System.arraycopy(other.places, 0, places, 0, MONKS);
            hold = other.hold;
            monks = other.monks;
            sects = other.sects;
            buried = other.buried;
            fallen = other.fallen;
            taken = other.taken;
            days = other.days;
        }

        boolean isFallen(int cell) {
            return has(fallen, cell);
        }

        boolean isMonk(int monk) {
            return monk >= 0 && monk < monks;
        }

        boolean isLiving(int monk) {
            return isMonk(monk) && !has(buried, monk);
        }

        int living() {
            return (1 << monks) - 1 & ~buried;
        }

        int placeOf(int monk) {
            return at(places, monk);
        }

        void addMonk(int cell, int sect) {
            put(places, monks, cell);
            sects |= sect << monks;
            monks++;
        }

        /** Who stands on one of these cells, buried ones too. */
        int monksOn(int cells) {
            int found = 0;
            for (int monk = 0; monk < monks && monk < places.length; monk++) {
                found |= (cells >> places[monk] & 1) << monk;
            }
            return found;
        }

        int oreLeft() {
            int sum = 0;
            for (int cell = 0; cell < ore.length; cell++) {
                sum += ore[cell];
            }
            return sum;
        }

        /** 0: buried; 2: a living monk of the other sect is near; 1: none is. */
        int forceOf(int monk) {
            int living = living();
            if (!has(living, monk)) {
                return 0;
            }
            int place = placeOf(monk);
            int others = has(sects, monk) ? ~sects : sects;
            int around = monksOn(1 << place | at(NEAR, place));
            return (around & others & living) != 0 ? 2 : 1;
        }

        /** A prayer with its waves; answers what falls. */
        int prayer(int monk) {
            loosenBy(monk);
            return waves();
        }

        /** Those of the set pray by number, but for those who are buried by then. */
        void prayAll(int set) {
            for (int monk = 0; monk < MONKS; monk++) {
                if (has(set, monk) && isLiving(monk)) {
                    prayer(monk);
                }
            }
        }

        /** A day goes by, with its waves; answers what falls. */
        int endDay() {
            days++;
            for (int cell = 0; cell < CELLS; cell++) {
                loosen(1 << cell, at(echoes, cell));
                put(echoes, cell, 0);
            }
            return waves();
        }

        /** What a prayer does ahead of its waves. */
        void loosenBy(int monk) {
            int force = forceOf(monk);
            int place = placeOf(monk);
            loosen(1 << place, 2 * force);
            loosen(at(NEAR, place), force);
            if (!isFallen(place)) {
                put(echoes, place, at(echoes, place) + 1);
            }
        }

        /** How many props more would hold all that is too loose. */
        int propsWanting() {
            int sum = 0;
            for (int cell = 0; cell < loose.length && cell < props.length; cell++) {
                sum += Math.max(0, loose[cell] - hold - props[cell]);
            }
            return sum;
        }

        private void loosen(int cells, int by) {
            int open = cells & ~fallen;
            for (int cell = 0; cell < loose.length; cell++) {
                if ((open >> cell & 1) != 0) {
                    loose[cell] = Math.min(LOOSE_MOST, loose[cell] + by);
                }
            }
        }

        private int waves() {
            int before = fallen;
            // Each wave but the last brings down a cell at least, so there are never more.
            for (int wave = 0; wave < CELLS; wave++) {
                int due = tooLoose();
                if (due == 0) {
                    break;
                }
                fell(due);
            }
            return fallen & ~before;
        }

        /** The cells that can't bear it; never a fallen one, for it is loose by 0. */
        private int tooLoose() {
            int due = 0;
            for (int cell = 0; cell < loose.length && cell < props.length; cell++) {
                if (loose[cell] > hold + props[cell]) {
                    due |= 1 << cell;
                }
            }
            return due;
        }

        /** All of these fall at once, and only then loosen what is around them. */
        private void fell(int due) {
            fallen |= due;
            buried |= monksOn(due);
            for (int cell = 0; cell < CELLS; cell++) {
                if (has(due, cell)) {
                    taken += at(ore, cell);
                    empty(cell);
                    loosen(at(NEAR, cell), 1);
                }
            }
        }

        private void empty(int cell) {
            put(ore, cell, 0);
            put(loose, cell, 0);
            put(props, cell, 0);
            put(echoes, cell, 0);
        }
    }

    /** Takes a text sign by sign into a draft of the mine, up to the first sign that can't be. */
    private static final class Reader {
        private static final int HEAD = 0, HOLD = 1, PART = 2;
        private static final int CELL_TENS = 3, CELL_ONES = 4, CELL_ORE = 5, CELL_LOOSE = 6, CELL_PROPS = 7;
        private static final int MONK_TENS = 8, MONK_ONES = 9, MONK_SECT = 10;
        private static final int TOLD_MOST = 8;
        private static final int BELOW_TEN = 0x3FF, FROM_TEN = 0xC00;

        final Mine draft = new Mine();
        /** Which sign is due next. */
        private int due;
        /** The cells that were told, as bits. */
        private int told;
        private int place;

        void start() {
            draft.clear();
            due = HEAD;
            told = 0;
            place = 0;
        }

        boolean mayEnd() {
            return due == PART;
        }

        boolean accepts(int sign) {
            switch (due) {
                case HEAD: return sign == 'M' && goOn(HOLD);
                case HOLD: return acceptsHold(sign);
                case PART: return acceptsPart(sign);
                case CELL_TENS: return acceptsTens(sign - '0', told) && goOn(CELL_ONES);
                case CELL_ONES: return acceptsOnes(sign - '0', told) && tell();
                case CELL_ORE: return acceptsAmount(draft.ore, sign - '0') && goOn(CELL_LOOSE);
                case CELL_LOOSE: return acceptsAmount(draft.loose, sign - '0') && goOn(CELL_PROPS);
                case CELL_PROPS: return acceptsAmount(draft.props, sign - '0') && goOn(PART);
                case MONK_TENS: return acceptsTens(sign - '0', 0) && goOn(MONK_ONES);
                case MONK_ONES: return acceptsOnes(sign - '0', 0) && goOn(MONK_SECT);
                case MONK_SECT: return acceptsSect(sign - '0');
                default: return false;
            }
        }

        private boolean goOn(int next) {
            due = next;
            return true;
        }

        private boolean acceptsHold(int sign) {
            if (sign < '1' || sign > '9') {
                return false;
            }
            draft.hold = sign - '0';
            return goOn(PART);
        }

        private boolean acceptsPart(int sign) {
            if (sign == 'C' && Integer.bitCount(told) < TOLD_MOST) {
                return goOn(CELL_TENS);
            }
            return sign == 'K' && draft.monks < MONKS && goOn(MONK_TENS);
        }

        /** The tens of a cell's number can be only if some cell that begins so is not barred. */
        private boolean acceptsTens(int tens, int barred) {
            int cells = tens == 0 ? BELOW_TEN : tens == 1 ? FROM_TEN : 0;
            place = 10 * tens;
            return (cells & ~barred) != 0;
        }

        private boolean acceptsOnes(int ones, int barred) {
            place += ones;
            return ones >= 0 && ones <= 9 && isCell(place) && !has(barred, place);
        }

        private boolean tell() {
            told |= 1 << place;
            return goOn(CELL_ORE);
        }

        private boolean acceptsAmount(int[] row, int amount) {
            if (amount < 0 || amount > 9) {
                return false;
            }
            put(row, place, amount);
            return true;
        }

        private boolean acceptsSect(int sect) {
            if (sect != 0 && sect != 1) {
                return false;
            }
            draft.addMonk(place, sect);
            return goOn(PART);
        }
    }
}
