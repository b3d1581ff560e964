import java.math.BigInteger;
import java.util.ArrayDeque;
import java.util.ArrayList;
import java.util.Deque;
import java.util.HashMap;
import java.util.List;
import java.util.Map;

/** A second telling of the document, slow and plain, that the class is held against. */
final class PlainMine {
    private static final int UNKNOWN = -1, BAD = -2, LATE = -3, FULL = -4, NONE = -9;

    private static final class Cell {
        int ore, loose, props, echoes;
        boolean fallen;
    }

    private static final class Monk {
        int row, column, sect;
        boolean buried;

        int cell() {
            return 4 * row + column;
        }
    }

    private static final class World {
        int hold = 1, day, taken;
        final Cell[][] cells = new Cell[3][4];
        final List<Monk> monks = new ArrayList<>();

        World() {
            for (Cell[] row : cells) {
                for (int c = 0; c < 4; c++) {
                    row[c] = new Cell();
                }
            }
        }

        World copy() {
            World w = new World();
            w.hold = hold;
            w.day = day;
            w.taken = taken;
            for (int i = 0; i < 12; i++) {
                Cell from = cell(i);
                Cell to = w.cell(i);
                to.ore = from.ore;
                to.loose = from.loose;
                to.props = from.props;
                to.echoes = from.echoes;
                to.fallen = from.fallen;
            }
            for (Monk from : monks) {
                Monk to = new Monk();
                to.row = from.row;
                to.column = from.column;
                to.sect = from.sect;
                to.buried = from.buried;
                w.monks.add(to);
            }
            return w;
        }

        Cell cell(int i) {
            return cells[i / 4][i % 4];
        }

        List<Cell> neighbours(int row, int column) {
            List<Cell> all = new ArrayList<>();
            int[][] steps = {{-1, 0}, {1, 0}, {0, -1}, {0, 1}};
            for (int[] step : steps) {
                int r = row + step[0];
                int c = column + step[1];
                if (r >= 0 && r < 3 && c >= 0 && c < 4) {
                    all.add(cells[r][c]);
                }
            }
            return all;
        }

        static void loosen(Cell cell, int by) {
            for (int i = 0; i < by; i++) {
                if (!cell.fallen && cell.loose < 99) {
                    cell.loose++;
                }
            }
        }

        int times(Monk monk) {
            if (monk.buried) {
                return 0;
            }
            for (Monk other : monks) {
                int far = Math.abs(other.row - monk.row) + Math.abs(other.column - monk.column);
                if (!other.buried && other.sect != monk.sect && far <= 1) {
                    return 2;
                }
            }
            return 1;
        }

        void loosenByPrayer(Monk monk) {
            Cell own = cells[monk.row][monk.column];
            for (int time = times(monk); time > 0; time--) {
                loosen(own, 2);
                for (Cell near : neighbours(monk.row, monk.column)) {
                    loosen(near, 1);
                }
            }
            if (!own.fallen) {
                own.echoes++;
            }
        }

        void prayer(Monk monk) {
            loosenByPrayer(monk);
            while (wave()) {
                continue;
            }
        }

        boolean wave() {
            List<Integer> down = new ArrayList<>();
            for (int i = 0; i < 12; i++) {
                Cell cell = cell(i);
                if (!cell.fallen && cell.loose > hold + cell.props) {
                    down.add(i);
                }
            }
            for (int i : down) {
                Cell cell = cell(i);
                taken += cell.ore;
                cell.ore = 0;
                cell.loose = 0;
                cell.props = 0;
                cell.echoes = 0;
                cell.fallen = true;
                for (Monk monk : monks) {
                    monk.buried |= monk.cell() == i;
                }
            }
            for (int i : down) {
                for (Cell near : neighbours(i / 4, i % 4)) {
                    loosen(near, 1);
                }
            }
            return !down.isEmpty();
        }

        void goBy() {
            day++;
            for (int i = 0; i < 12; i++) {
                Cell cell = cell(i);
                loosen(cell, cell.echoes);
                cell.echoes = 0;
            }
            while (wave()) {
                continue;
            }
        }

        int fallen() {
            int bits = 0;
            for (int i = 0; i < 12; i++) {
                bits += cell(i).fallen ? 1 << i : 0;
            }
            return bits;
        }

        int buried() {
            int bits = 0;
            for (int i = 0; i < monks.size(); i++) {
                bits += monks.get(i).buried ? 1 << i : 0;
            }
            return bits;
        }

        void prayIf(boolean[] who) {
            for (int i = 0; i < monks.size(); i++) {
                if (who[i] && !monks.get(i).buried) {
                    prayer(monks.get(i));
                }
            }
        }
    }

    /** Texts are asked for again and again, and the search is slow. */
    private static final Map<String, Integer> FAULTS = new HashMap<>();

    private String text = "";
    private World world = new World();
    private final Deque<World> acts = new ArrayDeque<>();
    private final World[] kept = new World[2];
    private final List<int[]> seen = new ArrayList<>();
    private long seed;

    int write(int n, long v) {
        if (n < 1 || n > 8) {
            return BAD;
        }
        StringBuilder more = new StringBuilder();
        BigInteger bytes = BigInteger.valueOf(v);
        for (int i = n - 1; i >= 0; i--) {
            more.append((char) bytes.shiftRight(8 * i).and(BigInteger.valueOf(255)).intValue());
        }
        if ((text + more).length() > 72) {
            return FULL;
        }
        text += more;
        return text.length();
    }

    int wipe() {
        int was = text.length();
        text = "";
        return was;
    }

    private static boolean isMine(String t) {
        if (!t.matches("(?s)M[1-9](C(0[0-9]|1[01])[0-9]{3}|K(0[0-9]|1[01])[01])*")) {
            return false;
        }
        List<String> cells = new ArrayList<>();
        int monks = 0;
        for (int i = 2; i < t.length(); i += t.charAt(i) == 'C' ? 6 : 4) {
            if (t.charAt(i) == 'K') {
                monks++;
            } else if (cells.contains(t.substring(i + 1, i + 3))) {
                return false;
            } else {
                cells.add(t.substring(i + 1, i + 3));
            }
        }
        return monks <= 4 && cells.size() <= 8;
    }

    /** Whether something behind it could make a mine of it: all parts that might end it are tried. */
    private static boolean mayGoOn(String t) {
        if (isMine(t) || isMine(t + "M1") || isMine(t + "1")) {
            return true;
        }
        if (t.isEmpty() || t.equals("M")) {
            return true;
        }
        for (int cut = Math.max(2, t.length() - 5); cut < t.length(); cut++) {
            for (int cell = 0; cell < 12; cell++) {
                String cc = "" + cell / 10 + cell % 10;
                String tail = t.substring(cut);
                for (String part : new String[] {"C" + cc + "000", "K" + cc + "0"}) {
                    if (tail.length() < part.length() && isMine(t + part.substring(tail.length()))) {
                        return true;
                    }
                }
            }
        }
        return false;
    }

    int fault() {
        return FAULTS.computeIfAbsent(text, PlainMine::faultOf);
    }

    private static int faultOf(String text) {
        for (int i = 0; i < text.length(); i++) {
            if (!mayGoOn(text.substring(0, i + 1))) {
                return i;
            }
        }
        return isMine(text) ? NONE : text.length();
    }

    int mine() {
        if (!isMine(text)) {
            return LATE;
        }
        world = new World();
        world.hold = text.charAt(1) - '0';
        for (int i = 2; i < text.length();) {
            int cc = Integer.parseInt(text.substring(i + 1, i + 3));
            if (text.charAt(i) == 'C') {
                world.cell(cc).ore = text.charAt(i + 3) - '0';
                world.cell(cc).loose = text.charAt(i + 4) - '0';
                world.cell(cc).props = text.charAt(i + 5) - '0';
                i += 6;
            } else {
                Monk monk = new Monk();
                monk.row = cc / 4;
                monk.column = cc % 4;
                monk.sect = text.charAt(i + 3) - '0';
                world.monks.add(monk);
                i += 4;
            }
        }
        acts.clear();
        kept[0] = null;
        kept[1] = null;
        return world.monks.size();
    }

    int about(int what) {
        int ore = 0;
        for (int i = 0; i < 12; i++) {
            ore += world.cell(i).ore;
        }
        int[] all = {world.hold, world.monks.size(), world.day, world.taken, world.fallen(), world.buried(),
            ore, acts.size(), seen.size(), text.length()};
        return what < 0 || what > 9 ? BAD : all[what];
    }

    int cell(int cell, int what) {
        if (cell < 0 || cell > 11) {
            return UNKNOWN;
        }
        int there = 0;
        for (int i = 0; i < world.monks.size(); i++) {
            there += world.monks.get(i).cell() == cell ? 1 << i : 0;
        }
        Cell c = world.cell(cell);
        int[] all = {c.ore, c.loose, c.props, c.echoes, c.fallen ? 1 : 0, there};
        return what < 0 || what > 5 ? BAD : all[what];
    }

    private Monk find(int monk) {
        return monk >= 0 && monk < world.monks.size() ? world.monks.get(monk) : null;
    }

    int monk(int monk, int what) {
        Monk m = find(monk);
        if (m == null) {
            return UNKNOWN;
        }
        int[] all = {m.cell(), m.sect, m.buried ? 1 : 0, world.times(m)};
        return what < 0 || what > 3 ? BAD : all[what];
    }

    private void act() {
        acts.addLast(world.copy());
        if (acts.size() > 14) {
            acts.removeFirst();
        }
    }

    int pray(int monk) {
        Monk m = find(monk);
        if (m == null || m.buried) {
            return m == null ? UNKNOWN : LATE;
        }
        act();
        int before = world.fallen();
        world.prayer(m);
        return world.fallen() - before;
    }

    int oath(int monk) {
        Monk m = find(monk);
        if (m == null) {
            return UNKNOWN;
        }
        Cell c = world.cell(m.cell());
        if (m.buried || c.fallen) {
            return LATE;
        }
        if (c.props == 9) {
            return FULL;
        }
        act();
        return ++c.props;
    }

    int doubt(int monk) {
        Monk m = find(monk);
        if (m == null || m.buried) {
            return m == null ? UNKNOWN : LATE;
        }
        act();
        Cell c = world.cell(m.cell());
        c.loose -= c.loose > 0 ? 1 : 0;
        return c.loose;
    }

    int walk(int monk, int cell) {
        Monk m = find(monk);
        if (m == null || cell < 0 || cell > 11) {
            return UNKNOWN;
        }
        if (m.buried || !world.neighbours(m.row, m.column).contains(world.cell(cell))) {
            return LATE;
        }
        act();
        m.row = cell / 4;
        m.column = cell % 4;
        int there = 0;
        for (int i = 0; i < world.monks.size(); i++) {
            Monk other = world.monks.get(i);
            there += i != monk && !other.buried && other.cell() == cell ? 1 << i : 0;
        }
        return there;
    }

    int day() {
        act();
        int before = world.fallen();
        world.goBy();
        return world.fallen() - before;
    }

    int undo() {
        if (acts.isEmpty()) {
            return LATE;
        }
        world = acts.removeLast();
        return acts.size();
    }

    int falls(int monk) {
        Monk m = find(monk);
        if (m == null || m.buried) {
            return m == null ? UNKNOWN : LATE;
        }
        World w = world.copy();
        w.prayer(w.monks.get(monk));
        return w.fallen() - world.fallen();
    }

    private World sung(String song) {
        World w = world.copy();
        return sings(w, song) == NONE ? w : null;
    }

    private static int sings(World w, String song) {
        for (int i = 0; i < song.length(); i++) {
            int monk = song.charAt(i) - '0';
            if (monk >= w.monks.size() || w.monks.get(monk).buried) {
                return i;
            }
            int before = w.buried();
            w.prayer(w.monks.get(monk));
            if (w.buried() != before) {
                return i;
            }
        }
        return NONE;
    }

    int psalm(int n, int row) {
        String song = String.valueOf(row);
        if (n < 1 || n > 8 || row < 0 || song.length() > n) {
            return BAD;
        }
        return sings(world.copy(), "0".repeat(n - song.length()) + song);
    }

    private String bestSong(int n) {
        String best = null;
        for (int code = 0; code < Math.pow(10, n); code++) {
            String song = String.format("%0" + n + "d", code);
            if (song.matches("[0-3]+")) {
                World w = sung(song);
                if (w != null && (best == null || w.taken > sung(best).taken)) {
                    best = song;
                }
            }
        }
        return best;
    }

    int best(int n) {
        if (n < 1 || n > 3) {
            return BAD;
        }
        String song = bestSong(n);
        return song == null ? NONE : sung(song).taken - world.taken;
    }

    int bestAt(int n, int i) {
        if (n < 1 || n > 3) {
            return BAD;
        }
        String song = bestSong(n);
        return song == null || i < 0 || i >= n ? NONE : song.charAt(i) - '0';
    }

    /** Adds props one by one, each where something falls first, until nothing does. */
    int oaths() {
        int added = 0;
        World propped = world.copy();
        while (true) {
            World w = propped.copy();
            int wanting = -1;
            for (Monk monk : w.monks) {
                if (!monk.buried && wanting < 0) {
                    w.loosenByPrayer(monk);
                    for (int i = 0; i < 12 && wanting < 0; i++) {
                        Cell c = w.cell(i);
                        wanting = !c.fallen && c.loose > w.hold + c.props ? i : -1;
                    }
                }
            }
            if (wanting < 0) {
                return added;
            }
            propped.cell(wanting).props++;
            added++;
        }
    }

    int down(int cell) {
        if (cell < 0 || cell > 11) {
            return UNKNOWN;
        }
        World w = world.copy();
        int days = 0;
        while (!w.cell(cell).fallen) {
            if (days == 30) {
                return NONE;
            }
            w.prayIf(new boolean[] {true, true, true, true});
            w.goBy();
            days++;
        }
        return days;
    }

    int see(int cell, int d) {
        if (cell < 0 || cell > 11) {
            return UNKNOWN;
        }
        if (d < 0 || d > 100) {
            return BAD;
        }
        if (seen.size() == 6) {
            return FULL;
        }
        seen.add(new int[] {cell, d});
        return seen.size();
    }

    int unsee() {
        int was = seen.size();
        seen.clear();
        return was;
    }

    /** All choices of who prays among those not buried, the first monk's choice outermost. */
    private List<boolean[]> choices() {
        List<boolean[]> all = new ArrayList<>();
        all.add(new boolean[4]);
        for (int i = 0; i < world.monks.size(); i++) {
            if (!world.monks.get(i).buried) {
                List<boolean[]> more = new ArrayList<>();
                for (boolean[] choice : all) {
                    boolean[] with = choice.clone();
                    with[i] = true;
                    more.add(choice);
                    more.add(with);
                }
                all = more;
            }
        }
        return all;
    }

    int silent(int what) {
        if (what < 0 || what > 1) {
            return BAD;
        }
        int sets = 0;
        boolean[] surely = {true, true, true, true};
        for (boolean[] choice : choices()) {
            World w = world.copy();
            w.prayIf(choice);
            boolean fits = true;
            for (int[] s : seen) {
                Cell c = w.cell(s[0]);
                fits &= s[1] == 100 ? c.fallen : !c.fallen && c.loose == s[1];
            }
            if (fits) {
                sets++;
                for (int i = 0; i < 4; i++) {
                    surely[i] &= choice[i];
                }
            }
        }
        int bits = 0;
        for (int i = 0; i < 4; i++) {
            bits += surely[i] ? 1 << i : 0;
        }
        return what == 0 ? sets : sets == 0 ? NONE : bits;
    }

    int chance(int cell, int x, boolean upper) {
        if (cell < 0 || cell > 11) {
            return UNKNOWN;
        }
        if (x < 0 || x > 10) {
            return BAD;
        }
        BigInteger part = likely(world.copy(), 0, cell, x);
        BigInteger whole = BigInteger.TEN.pow(world.monks.size());
        return (upper ? part : whole).divide(part.gcd(whole)).intValue();
    }

    /** In tenths of tenths, a tenth for each monk from this one on. */
    private static BigInteger likely(World w, int monk, int cell, int x) {
        if (monk == w.monks.size()) {
            return w.cell(cell).fallen ? BigInteger.ONE : BigInteger.ZERO;
        }
        World prayed = w.copy();
        if (!prayed.monks.get(monk).buried) {
            prayed.prayer(prayed.monks.get(monk));
        }
        BigInteger yes = likely(prayed, monk + 1, cell, x).multiply(BigInteger.valueOf(x));
        return yes.add(likely(w.copy(), monk + 1, cell, x).multiply(BigInteger.valueOf(10 - x)));
    }

    long seed(long v) {
        long was = seed;
        seed = v;
        return was;
    }

    int month(int m, int t) {
        if (m < 1 || m > 30 || t < 0 || t > 10) {
            return BAD;
        }
        World w = world.copy();
        BigInteger all = BigInteger.ONE.shiftLeft(64);
        for (int d = 0; d < m; d++) {
            for (Monk monk : w.monks) {
                if (!monk.buried) {
                    BigInteger x = BigInteger.valueOf(seed).multiply(new BigInteger("6364136223846793005"))
                        .add(new BigInteger("1442695040888963407")).mod(all);
                    seed = x.longValue();
                    if (x.shiftRight(33).mod(BigInteger.TEN).intValue() < t) {
                        w.prayer(monk);
                    }
                }
            }
            w.goBy();
        }
        return w.taken;
    }

    int keep(int slot) {
        if (slot != 0 && slot != 1) {
            return UNKNOWN;
        }
        kept[slot] = world.copy();
        return world.day;
    }

    int again(int slot) {
        if (slot != 0 && slot != 1) {
            return UNKNOWN;
        }
        if (kept[slot] == null) {
            return LATE;
        }
        world = kept[slot].copy();
        acts.clear();
        return world.day;
    }
}
