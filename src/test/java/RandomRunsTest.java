import java.util.Random;

/** Promises 1 to 28: runs of random calls, each answer held against that of PlainMine. */
public final class RandomRunsTest {
    private static final Due DUE = new Due("RandomRunsTest");
    private static final int RUNS = 400, CALLS = 512;

    private final Random random;
    private final PrayerTailings x = new PrayerTailings();
    private final PlainMine plain = new PlainMine();
    private final int run;

    private RandomRunsTest(int run) {
        this.run = run;
        this.random = new Random(run);
    }

    public static void main(String[] args) {
        for (int run = 0; run < RUNS; run++) {
            new RandomRunsTest(run).play();
        }
        DUE.end();
    }

    private void play() {
        int calls = 0;
        while (calls < CALLS - 40) {
            if (random.nextInt(60) == 0 || calls == 0) {
                calls += tell(random.nextInt(3) == 0 ? Mines.anyText(random) : Mines.text(random));
            }
            call(random.nextInt(28));
            calls++;
        }
        compareAll();
    }

    private void due(String call, long got, long want) {
        DUE.is("run " + run + ": " + call, got, want);
    }

    /** A small number, now and then one at or beyond an edge. */
    private int number(int below) {
        int kind = random.nextInt(40);
        if (kind == 0) {
            return new int[] {-1, below, below + 1, Integer.MIN_VALUE, Integer.MAX_VALUE}[random.nextInt(5)];
        }
        return random.nextInt(below);
    }

    private int monk() {
        int monks = plain.about(1);
        return monks == 0 || random.nextInt(30) == 0 ? number(5) : random.nextInt(monks);
    }

    private int tell(String text) {
        int calls = 2;
        due("wipe()", x.wipe(), plain.wipe());
        for (int from = 0; from < text.length();) {
            int n = Math.min(1 + random.nextInt(8), text.length() - from);
            long v = random.nextLong();
            for (int i = 0; i < n; i++) {
                v = v << 8 | text.charAt(from + i);
            }
            due("write(" + n + ", " + v + ")", x.write(n, v), plain.write(n, v));
            from += n;
            calls++;
        }
        due("fault() of " + text, x.fault(), plain.fault());
        due("mine() of " + text, x.mine(), plain.mine());
        return calls;
    }

    private void call(int which) {
        if (which < 6) {
            tellCall(which);
        } else if (which < 16) {
            actCall(random.nextInt(10));
        } else if (which < 22) {
            psalmCall(which);
        } else {
            seenCall(random.nextInt(9));
        }
    }

    private void tellCall(int which) {
        int a = number(12);
        int b = number(6);
        switch (which) {
            case 0: due("about(" + a + ")", x.about(a), plain.about(a)); break;
            case 1: due("cell(" + a + ", " + b + ")", x.cell(a, b), plain.cell(a, b)); break;
            case 2: due("cell(" + a + ", 1)", x.cell(a, 1), plain.cell(a, 1)); break;
            case 3:
                int m = monk();
                due("monk(" + m + ", " + b + ")", x.monk(m, b), plain.monk(m, b));
                break;
            case 4:
                due("fault()", x.fault(), plain.fault());
                break;
            default:
                int n = number(10);
                long v = random.nextLong();
                if (random.nextInt(8) == 0) {
                    due("write(" + n + ", " + v + ")", x.write(n, v), plain.write(n, v));
                }
        }
    }

    private void actCall(int which) {
        int m = monk();
        switch (which) {
            case 0: case 1: case 2: due("pray(" + m + ")", x.pray(m), plain.pray(m)); break;
            case 3: due("oath(" + m + ")", x.oath(m), plain.oath(m)); break;
            case 4: due("doubt(" + m + ")", x.doubt(m), plain.doubt(m)); break;
            case 5: case 6:
                int cell = number(12);
                due("walk(" + m + ", " + cell + ")", x.walk(m, cell), plain.walk(m, cell));
                break;
            case 7: due("day()", x.day(), plain.day()); break;
            default:
                for (int i = random.nextInt(3); i >= 0; i--) {
                    due("undo()", x.undo(), plain.undo());
                }
        }
    }

    private void psalmCall(int which) {
        int m = monk();
        int n = 1 + number(3);
        switch (which) {
            case 16: due("falls(" + m + ")", x.falls(m), plain.falls(m)); break;
            case 17:
                int figures = number(9);
                int row = figuresOf(figures);
                due("psalm(" + figures + ", " + row + ")", x.psalm(figures, row), plain.psalm(figures, row));
                break;
            case 18: due("best(" + n + ")", x.best(n), plain.best(n)); break;
            case 19:
                int i = number(3);
                due("bestAt(" + n + ", " + i + ")", x.bestAt(n, i), plain.bestAt(n, i));
                break;
            case 20: due("oaths()", x.oaths(), plain.oaths()); break;
            default:
                int cell = number(12);
                due("down(" + cell + ")", x.down(cell), plain.down(cell));
        }
    }

    private int figuresOf(int n) {
        int row = 0;
        for (int i = 0; i < n && i < 9; i++) {
            row = 10 * row + monk() % 10;
        }
        return random.nextInt(20) == 0 ? number(100000) : row;
    }

    private void seenCall(int which) {
        int cell = number(12);
        int tenths = number(11);
        switch (which) {
            case 0: case 1:
                int d = random.nextInt(3) == 0 ? 100 : number(random.nextBoolean() ? 4 : 101);
                due("see(" + cell + ", " + d + ")", x.see(cell, d), plain.see(cell, d));
                break;
            case 2: due("unsee()", x.unsee(), plain.unsee()); break;
            case 3:
                due("silent(0)", x.silent(0), plain.silent(0));
                due("silent(1)", x.silent(1), plain.silent(1));
                break;
            case 4:
                due("chance(" + cell + ", " + tenths + ")", x.chance(cell, tenths, true), plain.chance(cell, tenths, true));
                due("chance(" + cell + ", " + tenths + ")", x.chance(cell, tenths, false), plain.chance(cell, tenths, false));
                break;
            case 5:
                long v = random.nextLong();
                due("seed(" + v + ")", x.seed(v), plain.seed(v));
                break;
            case 6:
                int m = 1 + number(30);
                due("month(" + m + ", " + tenths + ")", x.month(m, tenths), plain.month(m, tenths));
                break;
            case 7: int in = number(2); due("keep(" + in + ")", x.keep(in), plain.keep(in)); break;
            default: int of = number(2); due("again(" + of + ")", x.again(of), plain.again(of)); break;
        }
    }

    private void compareAll() {
        for (int what = -1; what < 11; what++) {
            due("about(" + what + ")", x.about(what), plain.about(what));
        }
        for (int cell = 0; cell < 12; cell++) {
            for (int what = 0; what < 6; what++) {
                due("cell(" + cell + ", " + what + ")", x.cell(cell, what), plain.cell(cell, what));
            }
        }
        for (int monk = 0; monk < 5; monk++) {
            for (int what = 0; what < 4; what++) {
                due("monk(" + monk + ", " + what + ")", x.monk(monk, what), plain.monk(monk, what));
            }
        }
        due("seed(0)", x.seed(0), plain.seed(0));
    }
}
