import java.util.Random;

/** Texts of mines, and objects in some state: the same ones each time, by a number. */
final class Mines {
    private Mines() {
    }

    /** The text of a mine with any hold, cells and monks. */
    static String text(Random random) {
        StringBuilder text = new StringBuilder("M").append(1 + random.nextInt(random.nextBoolean() ? 9 : 4));
        int told = 0;
        int cells = random.nextInt(9);
        int monks = random.nextInt(5);
        while (cells + monks > 0) {
            if (random.nextInt(cells + monks) < cells) {
                int cell = random.nextInt(12);
                if ((told >> cell & 1) == 0) {
                    told |= 1 << cell;
                    cells--;
                    text.append('C').append(Due.two(cell)).append(random.nextInt(10))
                        .append(random.nextInt(random.nextInt(10) + 1)).append(random.nextInt(random.nextInt(10) + 1));
                }
            } else {
                monks--;
                text.append('K').append(Due.two(random.nextInt(12))).append(random.nextInt(2));
            }
        }
        return text.toString();
    }

    /** A text with something wrong, most often: a sign changed, cut off, or parts put behind. */
    static String anyText(Random random) {
        StringBuilder text = new StringBuilder(text(random));
        String signs = "MCCKK0011239:/ck\u00FF";
        switch (random.nextInt(4)) {
            case 0:
                text.setLength(random.nextInt(text.length() + 1));
                break;
            case 1:
                text.setCharAt(random.nextInt(text.length()), signs.charAt(random.nextInt(signs.length())));
                break;
            case 2:
                text.append(text(random).substring(2));
                break;
            default:
                for (int i = random.nextInt(8); i >= 0; i--) {
                    text.append(signs.charAt(random.nextInt(signs.length())));
                }
        }
        return text.toString();
    }

    /** A mine that was told and worked, the same one for the same number: some 20 calls. */
    static PrayerTailings worked(int number) {
        Random random = new Random(number);
        PrayerTailings x = Due.told(text(random));
        work(x, random, random.nextInt(8));
        return x;
    }

    /** So many acts of any kind; those that are refused count. */
    static void work(PrayerTailings x, Random random, int acts) {
        for (int i = 0; i < acts; i++) {
            int monk = random.nextInt(4);
            switch (random.nextInt(8)) {
                case 0: case 1: case 2: x.pray(monk); break;
                case 3: x.oath(monk); break;
                case 4: x.doubt(monk); break;
                case 5: case 6: x.walk(monk, random.nextInt(12)); break;
                default: x.day();
            }
        }
    }
}
