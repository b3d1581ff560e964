import java.util.Random;

/**
 * What the mine is, in the document's first words: each of them held on mines of many kinds, one call's answer
 * against what other calls bring about on another object in the same state.
 */
public final class StoryEdgesTest {
    private static final int NONE = -9;
    private static final int MINES = 120;
    private static final String PLACE = "What it is";

    public static void main(String[] args) {
        edges().run();
    }

    static Edges edges() {
        Edges all = new Edges("StoryEdgesTest");
        ofTheMine(all);
        ofPsalms(all);
        ofWhatIsSeen(all);
        ofLaterCalls(all);
        return all;
    }

    private static void ofTheMine(Edges all) {
        all.stand(PLACE, "Tailings of prayer: a silver mine in which each prayer loosens stones", StoryEdgesTest::prayersLoosen)
            .breaksIn("prayer", "loosenBy(monk);", "")
            .breaksIn("loosenBy", "loosen(1 << place, 2 * force);", "");
        all.stand(PLACE, "told as a text with the first fault", StoryEdgesTest::firstFault)
            .breaksIn("readText", "return i;", "return Math.max(0, i - 1);")
            .breaksIn("readText", "return i;", "return length;")
            .breaksIn("readText", "NONE : length", "NONE : length - 1");
        all.stand(PLACE, "monks of two sects that pray, swear props in, doubt, walk", StoryEdgesTest::whatMonksDo)
            .breaksIn("addMonk", "sects |= sect << monks;", "")
            .breaksIn("pray", "return now.prayer(monk);", "return 0;")
            .breaksIn("oath", "put(now.props, place, props + 1);", "")
            .breaksIn("doubt", "put(now.loose, place, loose);", "")
            .breaksIn("walk", "put(now.places, monk, cell);", "");
        all.stand(PLACE, "echoes that pray on by the day", StoryEdgesTest::echoesPrayOn)
            .breaksIn("endDay", "loosen(1 << cell, at(echoes, cell));", "")
            .breaksIn("endDay", "put(echoes, cell, 0);", "");
        all.stand(PLACE, "falls in waves that bring ore and bury who is there", StoryEdgesTest::fallsBringAndBury)
            .breaksIn("fell", "taken += at(ore, cell);", "")
            .breaksIn("fell", "buried |= monksOn(due);", "")
            .breaksIn("fell", "buried |= monksOn(due);", "buried |= monksOn(due | at(NEAR, 0));")
            .breaksIn("waves", "wave < CELLS", "wave < 1");
        all.stand(PLACE, "all undone", StoryEdgesTest::allIsUndone)
            .breaksIn("undo", "now.take(past[acts]);", "")
            .breaksIn("remember", "place.take(now);", "")
            .breaksIn("take", "buried = other.buried;", "");
    }

    private static void ofPsalms(Edges all) {
        all.stand(PLACE, "what falls by one prayer", StoryEdgesTest::fallsIsWhatPrayBrings)
            .breaksIn("falls", "return trial.prayer(monk);", "trial.prayer(monk); return trial.fallen;")
            .breaksIn("falls", "trial.take(now);", "");
        all.stand(PLACE, "the prayers that bring most ore and bury nobody", StoryEdgesTest::bestIsMost)
            .breaksIn("bestCode", "trial.taken > most", "most < 0")
            .breaksIn("bestCode", "trial.taken > most", "trial.taken >= most")
            .breaksIn("bestCode", "breakOf(n) == NONE", "breakOf(n) != 0");
        all.stand(PLACE, "psalms judged prayer by prayer", StoryEdgesTest::psalmsAreJudged)
            .breaksIn("breakOf", "trial.buried != now.buried", "false")
            .breaksIn("breakOf", "trial.prayer(monk);", "");
        all.stand(PLACE, "the fewest oaths for all to pray", StoryEdgesTest::oathsForAll)
            .breaksIn("oaths", "trial.loosenBy(monk);", "")
            .breaksIn("propsWanting", "loose[cell] - hold - props[cell]", "loose[cell] - hold")
            .breaksIn("propsWanting", "loose[cell] - hold - props[cell]", "loose[cell] + 1 - hold - props[cell]");
        all.stand(PLACE, "on which day a cell comes down", StoryEdgesTest::dayOfDown)
            .breaksIn("down", "trial.endDay();", "")
            .breaksIn("down", "trial.prayAll((1 << MONKS) - 1);", "")
            .breaksIn("down", "return days;", "return days + 1;");
    }

    private static void ofWhatIsSeen(Edges all) {
        all.stand(PLACE, "who fell silent, by how stones loosened", StoryEdgesTest::whoFellSilent)
            .breaksIn("isSeenBy", "return false;", "continue;")
            .breaksIn("isSeenBy", "at(trial.loose, cell)", "at(now.loose, cell)")
            .breaksIn("silent", "surely &= set;", "surely |= set;");
        all.stand(PLACE, "chances that a cell falls", StoryEdgesTest::chancesAreCounted)
            .breaksIn("weightOf", "x : TENTHS - x", "TENTHS - x : x")
            .breaksIn("chance", "part += trial.isFallen(cell) ? weight : 0;", "part += weight;")
            .breaksIn("chance", "trial.prayAll(set);", "");
        all.stand(PLACE, "months by a seed", StoryEdgesTest::monthsArePlayed)
            .breaksIn("month", "trial.endDay();", "")
            .breaksIn("month", "trial.isLiving(monk) && nextTenth() < t", "nextTenth() < t && trial.isLiving(monk)")
            .breaksIn("month", "trial.prayer(monk);", "");
        all.stand(PLACE, "kept and gone on from", StoryEdgesTest::keptAndGoneOnFrom)
            .breaksIn("keep", "place.take(now);", "")
            .breaksIn("again", "now.take(slots[slot]);", "")
            .breaksIn("again", "now.take(slots[slot]);", "Mine was = slots[slot]; slots[slot] = past[0]; past[0] = was; now.take(was);");
    }

    private static void ofLaterCalls(Edges all) {
        all.stand(PLACE, "CELLS are 0 ..", StoryEdgesTest::cellsFromZero)
            .breaksIn("isCell", "cell >= 0", "cell > 0");
        // Free is the answer, but no call ever throws: LANGUAGE.md, rule 7.
        all.stand(PLACE, "what later calls answer is free.", StoryEdgesTest::laterCallsEnd)
            .breaksIn("endDay", "days++;", "days++; hold /= days > 600 ? monks - monks : 1;");
    }

    private static int living(PrayerTailings x) {
        return (1 << x.about(1)) - 1 & ~x.about(5);
    }

    private static void prayersLoosen(Due due) {
        for (int number = 0; number < MINES; number++) {
            PrayerTailings x = Mines.worked(number);
            for (int monk = 0; monk < x.about(1); monk++) {
                int cell = x.monk(monk, 0);
                int loose = x.cell(cell, 1) + 2 * x.monk(monk, 3);
                boolean can = x.monk(monk, 2) == 0 && x.cell(cell, 4) == 0;
                int falls = x.pray(monk);
                if (can) {
                    due.is("pray(" + monk + ") of mine " + number + " loosens its cell, or it falls",
                        (falls >> cell & 1) != 0 || x.cell(cell, 1) >= loose ? 1 : 0, 1);
                }
            }
        }
    }

    /** Ahead of its first fault a text could still go on to a mine; behind it nothing mends it. */
    private static void firstFault(Due due) {
        Random random = new Random(4);
        for (int number = 0; number < MINES; number++) {
            String text = Mines.anyText(random);
            text = text.substring(0, Math.min(text.length(), 64));
            int place = faultOf(text);
            int end = place == NONE ? text.length() : place;
            due.is("a fault ahead of fault() of " + text, faultBeyond(text, end), 1);
            due.is("a mine that begins by " + text.substring(0, end), faultOf(goneOn(text.substring(0, end))), NONE);
            for (int length = end + 1; length <= text.length(); length++) {
                due.is("fault() of " + text.substring(0, length), faultOf(text.substring(0, length)), end);
            }
        }
    }

    /** The text with each time the first byte behind it that is no fault, until it is a mine: six at most. */
    private static String goneOn(String text) {
        String on = text;
        while (faultOf(on) != NONE && on.length() < text.length() + 6) {
            int sign = 0;
            while (sign < 255 && faultOf(on + (char) sign) == on.length()) {
                sign++;
            }
            on += (char) sign;
        }
        return on;
    }

    private static int faultOf(String text) {
        PrayerTailings x = new PrayerTailings();
        Due.write(x, text);
        return x.fault();
    }

    /** 1 if the text's beginnings up to this length have no fault but that of their end. */
    private static int faultBeyond(String text, int length) {
        for (int end = 0; end <= length; end++) {
            int place = faultOf(text.substring(0, end));
            if (place != NONE && place != end) {
                return 0;
            }
        }
        return 1;
    }

    private static void whatMonksDo(Due due) {
        PrayerTailings x = Due.told("M9K000K051K110");
        due.is("monk(0, 1)", x.monk(0, 1), 0);
        due.is("monk(1, 1)", x.monk(1, 1), 1);
        due.is("pray(0)", x.pray(0), 0);
        due.is("cell(0, 1)", x.cell(0, 1), 2);
        due.is("oath(0)", x.oath(0), 1);
        due.is("cell(0, 2)", x.cell(0, 2), 1);
        due.is("doubt(0)", x.doubt(0), 1);
        due.is("cell(0, 1)", x.cell(0, 1), 1);
        due.is("walk(0, 1)", x.walk(0, 1), 0);
        due.is("monk(0, 0)", x.monk(0, 0), 1);
        due.is("pray(0) beside the other sect", x.pray(0), 0);
        due.is("cell(1, 1)", x.cell(1, 1), 1 + 4);
        due.is("about(7)", x.about(7), 5);
    }

    private static void echoesPrayOn(Due due) {
        for (int prayers = 0; prayers <= 4; prayers++) {
            PrayerTailings x = Due.told("M9C05009C00009K050K000");
            for (int i = 0; i < prayers; i++) {
                x.pray(0);
            }
            x.pray(1);
            int loose = x.cell(5, 1);
            due.is("day()", x.day(), 0);
            due.is("cell(5, 1) behind a day", x.cell(5, 1), loose + prayers);
            due.is("cell(0, 1) behind a day", x.cell(0, 1), 3);
            x.day();
            due.is("cell(5, 1) behind two", x.cell(5, 1), loose + prayers);
        }
    }

    private static void fallsBringAndBury(Due due) {
        for (int number = 0; number < MINES; number++) {
            PrayerTailings x = Due.told(Mines.text(new Random(number)));
            Random random = new Random(-number);
            int whole = x.about(6);
            for (int act = 0; act < 6; act++) {
                int living = living(x);
                int open = ~x.about(4);
                Mines.work(x, random, 1);
                due.is("ore left and taken, mine " + number, x.about(6) + x.about(3), whole);
                int down = x.about(4) & open;
                for (int monk = 0; monk < x.about(1); monk++) {
                    boolean there = (living >> monk & 1) != 0 && (down >> x.monk(monk, 0) & 1) != 0;
                    due.is("monk(" + monk + ", 2) of mine " + number, x.monk(monk, 2), there || (living >> monk & 1) == 0 ? 1 : 0);
                }
            }
            x.day();
            for (int cell = 0; cell < 12; cell++) {
                boolean fallen = x.cell(cell, 4) == 1;
                boolean tooLoose = x.cell(cell, 1) > x.about(0) + x.cell(cell, 2);
                due.is("cell " + cell + " of mine " + number + " is too loose behind a day", tooLoose ? 1 : 0, 0);
                due.is("what a fallen cell has", fallen ? x.cell(cell, 0) + x.cell(cell, 1) + x.cell(cell, 2) + x.cell(cell, 3) : 0, 0);
            }
        }
    }

    private static void allIsUndone(Due due) {
        for (int number = 0; number < MINES; number++) {
            PrayerTailings x = Mines.worked(number);
            PrayerTailings twin = Mines.worked(number);
            int before = x.about(7);
            Random random = new Random(number + 1);
            while (x.about(7) < 14) {
                Mines.work(x, random, 1);
                if (x.about(7) < 14) {
                    x.day();
                }
            }
            for (int left = 13; left >= before; left--) {
                due.is("undo()", x.undo(), left);
            }
            due.same("mine " + number, Due.look(x), Due.look(twin));
        }
    }

    private static void fallsIsWhatPrayBrings(Due due) {
        for (int number = 0; number < MINES; number++) {
            for (int monk = -1; monk <= 4; monk++) {
                PrayerTailings x = Mines.worked(number);
                x.falls(0);
                due.is("falls(" + monk + ") of mine " + number, x.falls(monk), Mines.worked(number).pray(monk));
            }
        }
    }

    /** What is taken when these monks pray, told as figures; -1 when one can't, or somebody is buried. */
    private static int takenBy(int number, String song) {
        PrayerTailings x = Mines.worked(number);
        int taken = x.about(3);
        return judged(x, song) == NONE ? x.about(3) - taken : -1;
    }

    private static int judged(PrayerTailings x, String song) {
        for (int i = 0; i < song.length(); i++) {
            int buried = x.about(5);
            if (x.pray(song.charAt(i) - '0') < 0 || x.about(5) != buried) {
                return i;
            }
        }
        return NONE;
    }

    private static void bestIsMost(Due due) {
        for (int number = 0; number < MINES; number++) {
            for (int n = 1; n <= 3; n++) {
                int most = -1;
                String song = null;
                for (int code = 0; code < 1 << 2 * n; code++) {
                    String tried = String.format("%0" + n + "d", Integer.parseInt(Integer.toString(code, 4)));
                    int taken = takenBy(number, tried);
                    if (taken > most) {
                        most = taken;
                        song = tried;
                    }
                }
                PrayerTailings x = Mines.worked(number);
                due.is("best(" + n + ") of mine " + number, x.best(n), song == null ? NONE : most);
                for (int i = 0; i < n; i++) {
                    due.is("bestAt(" + n + ", " + i + ") of mine " + number, x.bestAt(n, i), song == null ? NONE : song.charAt(i) - '0');
                }
            }
        }
    }

    private static void psalmsAreJudged(Due due) {
        Random random = new Random(16);
        for (int number = 0; number < MINES; number++) {
            for (int n = 1; n <= 8; n++) {
                StringBuilder song = new StringBuilder();
                int last = number % 2 == 0 ? 4 : Math.max(1, Mines.worked(number).about(1));
                for (int i = 0; i < n; i++) {
                    song.append(random.nextInt(last));
                }
                due.is("psalm of " + song + " in mine " + number,
                    Mines.worked(number).psalm(n, Integer.parseInt(song.toString())), judged(Mines.worked(number), song.toString()));
            }
        }
    }

    private static void oathsForAll(Due due) {
        for (int number = 0; number < MINES; number++) {
            PrayerTailings x = Mines.worked(number);
            int living = living(x);
            int wanting = x.oaths();
            PrayerTailings prayed = Mines.worked(number);
            int falls = 0;
            for (int monk = 0; monk < 4; monk++) {
                if ((living >> monk & 1) != 0) {
                    falls |= Math.max(0, prayed.pray(monk));
                }
            }
            due.is("oaths() of mine " + number + " are none, if nothing falls", wanting == 0 ? 1 : 0, falls == 0 ? 1 : 0);
            // One oath is one prop more: it was wanted there, or not.
            for (int monk = 0; monk < 4; monk++) {
                PrayerTailings sworn = Mines.worked(number);
                if (sworn.oath(monk) > 0) {
                    int less = wanting - sworn.oaths();
                    due.is("oaths() behind oath(" + monk + ") of mine " + number, less == 0 || less == 1 ? 1 : 0, 1);
                }
            }
            oathsUntilNone(due, number);
        }
    }

    /** All on one cell: each swears until none are wanted, and that is as often as it was told. */
    private static void oathsUntilNone(Due due, int number) {
        int monks = number % 4 + 1;
        int cell = number % 12;
        StringBuilder text = new StringBuilder("M9C").append(Due.two(cell)).append("09").append(number % 3);
        for (int monk = 0; monk < monks; monk++) {
            text.append('K').append(Due.two(cell)).append(number / 12 % 2 * monk % 2);
        }
        PrayerTailings x = Due.told(text.toString());
        int wanting = x.oaths();
        int sworn = 0;
        while (sworn < wanting && x.oath(0) > 0) {
            sworn++;
            due.is("oaths() of " + text + " behind " + sworn, x.oaths(), wanting - sworn);
        }
        boolean held = sworn == wanting;
        int falls = 0;
        for (int monk = 0; monk < monks; monk++) {
            falls |= Math.max(0, x.pray(monk));
        }
        due.is("nothing falls of " + text, falls == 0 ? 1 : 0, held ? 1 : 0);
    }

    private static void dayOfDown(Due due) {
        for (int number = 0; number < MINES; number++) {
            PrayerTailings x = Mines.worked(number);
            int[] down = new int[12];
            for (int cell = 0; cell < 12; cell++) {
                down[cell] = x.down(cell);
            }
            PrayerTailings played = Mines.worked(number);
            for (int days = 0; days <= 30; days++) {
                for (int cell = 0; cell < 12; cell++) {
                    boolean fallen = (played.about(4) >> cell & 1) != 0;
                    due.is("down(" + cell + ") of mine " + number + ": fallen behind " + days, fallen ? 1 : 0,
                        down[cell] != NONE && down[cell] <= days ? 1 : 0);
                }
                for (int monk = 0; days < 20 && monk < 4; monk++) {
                    played.pray(monk);
                }
                if (days < 20) {
                    played.day();
                }
            }
        }
    }

    /** The mine of that number, and these of its monks have prayed, by number. */
    private static PrayerTailings prayed(int number, int set) {
        PrayerTailings x = Mines.worked(number);
        for (int monk = 0; monk < 4; monk++) {
            if ((set >> monk & 1) != 0) {
                x.pray(monk);
            }
        }
        return x;
    }

    private static int seenOf(PrayerTailings x, int cell) {
        return x.cell(cell, 4) == 1 ? 100 : x.cell(cell, 1);
    }

    private static void whoFellSilent(Due due) {
        for (int number = 0; number < MINES; number++) {
            int living = living(Mines.worked(number));
            PrayerTailings truly = prayed(number, number * 7 % 16 & living);
            PrayerTailings x = Mines.worked(number);
            int[] cells = {number % 12, (number + 1) % 12, (number + 5) % 12};
            for (int cell : cells) {
                x.see(cell, seenOf(truly, cell));
            }
            int sets = 0;
            int surely = living;
            for (int set = 0; set < 16; set++) {
                if ((set & ~living) == 0) {
                    PrayerTailings other = prayed(number, set);
                    boolean like = true;
                    for (int cell : cells) {
                        like &= seenOf(other, cell) == seenOf(truly, cell);
                    }
                    sets += like ? 1 : 0;
                    surely &= like ? set : living;
                }
            }
            due.is("silent(0) of mine " + number, x.silent(0), sets);
            due.is("silent(1) of mine " + number, x.silent(1), surely);
            x.see(0, seenOf(truly, 0) == 99 ? 98 : 99);
            due.is("silent(0) of what can't be", x.silent(0), 0);
            due.is("silent(1) of what can't be", x.silent(1), NONE);
        }
    }

    private static void chancesAreCounted(Due due) {
        for (int number = 0; number < MINES; number++) {
            PrayerTailings x = Mines.worked(number);
            int living = living(x);
            int tenths = number % 11;
            int[] above = new int[12];
            int below = 0;
            for (int set = 0; set < 16; set++) {
                if ((set & ~living) == 0) {
                    int weight = 1;
                    for (int monk = 0; monk < 4; monk++) {
                        weight *= (living >> monk & 1) == 0 ? 1 : (set >> monk & 1) != 0 ? tenths : 10 - tenths;
                    }
                    below += weight;
                    int fallen = prayed(number, set).about(4);
                    for (int cell = 0; cell < 12; cell++) {
                        above[cell] += (fallen >> cell & 1) * weight;
                    }
                }
            }
            for (int cell = 0; cell < 12; cell++) {
                String call = "chance(" + cell + ", " + tenths + ") of mine " + number;
                int part = x.chance(cell, tenths, true);
                int whole = x.chance(cell, tenths, false);
                due.is(call, (long) part * below, (long) whole * above[cell]);
                boolean least = whole > 0;
                for (int by = 2; by <= whole; by++) {
                    least &= part % by != 0 || whole % by != 0;
                }
                due.is(call + " in least terms", least ? 1 : 0, 1);
            }
        }
    }

    private static void monthsArePlayed(Due due) {
        for (int number = 0; number < MINES; number++) {
            int days = number % 12 + 1;
            int tenths = number % 11;
            long first = new Random(number).nextLong();
            long seed = first;
            PrayerTailings played = Mines.worked(number);
            for (int day = 0; day < days; day++) {
                for (int monk = 0; monk < played.about(1); monk++) {
                    if (played.monk(monk, 2) == 0) {
                        seed = seed * 6364136223846793005L + 1442695040888963407L;
                        if (Long.remainderUnsigned(seed >>> 33, 10) < tenths) {
                            played.pray(monk);
                        }
                    }
                }
                played.day();
            }
            PrayerTailings x = Mines.worked(number);
            x.seed(first);
            due.is("month(" + days + ", " + tenths + ") of mine " + number, x.month(days, tenths), played.about(3));
            due.is("the seed behind it", x.seed(0), seed);
        }
    }

    private static void keptAndGoneOnFrom(Due due) {
        for (int number = 0; number < MINES; number++) {
            int slot = number % 2;
            PrayerTailings x = Mines.worked(number);
            PrayerTailings twin = Mines.worked(number);
            due.is("keep(" + slot + ") of mine " + number, x.keep(slot), twin.about(2));
            for (int round = 0; round < 2; round++) {
                Mines.work(x, new Random(number), 12);
                due.is("again(" + slot + ") of mine " + number, x.again(slot), twin.about(2));
                due.is("about(7) then", x.about(7), 0);
                due.same("mine " + number, lookAsideActs(x), lookAsideActs(twin));
            }
            Mines.work(x, new Random(-number), 5);
            Mines.work(twin, new Random(-number), 5);
            due.same("mine " + number + ", gone on from", lookAsideActs(x), lookAsideActs(twin));
        }
    }

    /** What shows, but for how many acts there are: about(7) is the eighth. */
    private static String lookAsideActs(PrayerTailings x) {
        return Due.look(x).replaceFirst("^((\\S+ ){7})\\S+ ", "$1");
    }

    private static void cellsFromZero(Due due) {
        PrayerTailings x = Due.told("M1C00123");
        due.is("cell(0, 0)", x.cell(0, 0), 1);
        due.is("cell(-1, 0)", x.cell(-1, 0), -1);
    }

    private static void laterCallsEnd(Due due) {
        PrayerTailings x = Due.told("M9C00123K000K051");
        for (int call = 0; call < 3000; call++) {
            x.day();
            x.write(8, -1);
            x.keep(call % 3);
            x.see(call % 13, call);
            x.pray(call % 5);
        }
        due.is("an answer that is free", Math.min(0, x.about(2)), 0);
    }
}
