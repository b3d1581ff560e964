import java.lang.reflect.InvocationTargetException;
import java.lang.reflect.Method;
import java.util.ArrayList;
import java.util.HashMap;
import java.util.LinkedHashMap;
import java.util.List;
import java.util.Map;
import java.util.TreeSet;
import java.util.regex.Matcher;
import java.util.regex.Pattern;

/**
 * Every call, with ordinary arguments and those at and beyond each edge, in every kind of state that calls can bring
 * about: its answer, and all that shows behind it, held against PlainMine. The refusals that each promise names are
 * reached, and no others.
 */
public final class StatesTest {
    private static final Due DUE = new Due("StatesTest");
    private static final String LOW = "-2147483648", HIGH = "2147483647";
    private static final Map<String, Method> OF_CLASS = methodsOf(PrayerTailings.class);
    private static final Map<String, Method> OF_PLAIN = methodsOf(PlainMine.class);
    /** The refusals and NONEs that each method answered. */
    private static final Map<String, TreeSet<Long>> ANSWERED = new HashMap<>();
    private static final String EIGHT = "C00321C01412C02503C04630C05204C06115C07022C11910";
    private static final String SWORN = "text M9C00000K000; mine; " + "oath 0; ".repeat(9);

    private final String state;
    private final PrayerTailings x = new PrayerTailings();
    private final PlainMine plain = new PlainMine();

    private StatesTest(String state, String steps) {
        this.state = state;
        for (String step : steps.split("; ")) {
            if (step.startsWith("text ")) {
                write(step.substring("text ".length()));
            } else if (!step.isEmpty()) {
                ask(step.split(" "));
            }
        }
    }

    public static void main(String[] args) {
        List<String[]> calls = calls();
        for (Map.Entry<String, String> state : states().entrySet()) {
            StatesTest reached = new StatesTest(state.getKey(), state.getValue());
            reached.all();
            for (String[] call : calls) {
                StatesTest one = new StatesTest(state.getKey(), state.getValue());
                long answer = one.ask(call);
                if (answer < 0 && !call[0].equals("seed")) {
                    ANSWERED.computeIfAbsent(call[0], name -> new TreeSet<>()).add(answer);
                }
                one.all();
            }
        }
        statesAreWhatTheySay();
        refusalsAreThoseOfThePromises();
        DUE.end();
    }

    private static void statesAreWhatTheySay() {
        due("all monks buried", "about 5", 15);
        due("a monk buried by another's prayer", "about 5", 2);
        due("a living monk on a fallen cell", "cell 5 5", 1);
        due("a living monk on a fallen cell", "cell 5 4", 1);
        due("all cells fallen, a monk living", "about 4", 4095);
        due("all cells fallen, a monk living", "about 5", 0);
        due("echoes", "cell 0 3", 3);
        due("nine props", "cell 0 2", 9);
        due("fourteen acts", "about 7", 14);
        due("forty days on", "about 2", 40);
        due("something seen to be fallen", "silent 1", 1);
        due("what can't be seen", "silent 1", -9);
        due("six seen", "about 8", 6);
        due("kept in 0", "again 1", -3);
    }

    private static void due(String state, String call, long want) {
        DUE.is(state + ": " + call, new StatesTest(state, states().get(state)).ask(call.split(" ")), want);
    }

    private static Map<String, String> states() {
        Map<String, String> all = new LinkedHashMap<>();
        all.put("a new object", "");
        all.put("a new object, days on", "day; day; undo; keep 1; day");
        ofTexts(all);
        ofMonks(all);
        ofFalls(all);
        ofActs(all);
        ofWhatIsSeenAndKept(all);
        return all;
    }

    private static void ofTexts(Map<String, String> all) {
        all.put("a text begun", "text M");
        all.put("a part begun", "text M1K000C0");
        all.put("a fault in the midst", "text M1C00000C00000");
        all.put("a text of 72 bytes", "text " + "M".repeat(72));
        all.put("a text of 71 bytes", "text " + "M".repeat(71));
        all.put("a mine's text, not yet the mine", "text M3C05123K050");
        all.put("a mine of nothing", "text M4; mine");
        all.put("the longest mine", "text M2" + EIGHT + "K000K011K060K111; mine");
        all.put("a text told on behind the mine", "text M3C05123K050; mine; text X");
        all.put("a text wiped behind the mine", "text M3C05123K050; mine; wipe");
        all.put("another text behind the mine", "text M3C05123K050; mine; pray 0; wipe; text M9K000K111");
        all.put("the mine told anew", "text M3C05123K050; mine; pray 0; pray 0; keep 0; see 5 2; seed 7; mine");
    }

    private static void ofMonks(Map<String, String> all) {
        all.put("two sects on one cell", "text M8K050K051; mine");
        all.put("two sects side by side", "text M8K050K061K090K111; mine");
        all.put("one sect side by side", "text M8K051K061K091K051; mine");
        all.put("a monk buried", "text M3C05930K050K000K111; mine; pray 0");
        all.put("a buried monk of the other sect near", "text M3C05930K051K010K110; mine; pray 0; pray 0");
        all.put("all monks buried", "text M1K000K011K050K101; mine; pray 0; pray 1; pray 2; pray 3; day");
        all.put("a monk buried by another's prayer", "text M3C00003C01720K000K010; mine; pray 0; pray 0");
    }

    private static void ofFalls(Map<String, String> all) {
        all.put("cells too loose at first", "text M1C00590C05991C06190K000K050; mine");
        all.put("cells about to fall", "text M2C00320C01320C04321C05321K000K031K080; mine");
        all.put("a living monk on a fallen cell", "text M3C05240C06111K010K061; mine; day; walk 0 5");
        all.put("two monks on a fallen cell", "text M3C05240K010K061K110; mine; day; walk 0 5; walk 1 5; pray 0");
        all.put("all cells fallen, a monk living", "text M1C00920C02110C03110C06110C07110C08110C09110C10110K010; mine; day;"
            + " walk 0 0; pray 0; pray 0; day");
        all.put("what is loose by nearly too much", "text M9C05099C06099C01099K050K051K060; mine; pray 2");
        all.put("echoes", "text M9C00007K000K000K110; mine; pray 0; pray 1; pray 0; pray 2");
        all.put("echoes gone by", "text M9C00007K000K000K110; mine; pray 0; pray 1; pray 0; pray 2; day");
    }

    private static void ofActs(Map<String, String> all) {
        all.put("nine props", SWORN);
        all.put("fourteen acts", SWORN + "pray 0; doubt 0; walk 0 1; pray 0; day");
        all.put("more acts than are kept", SWORN + "pray 0; doubt 0; walk 0 1; pray 0; day; pray 0; pray 0; day; walk 0 5");
        all.put("all acts undone", SWORN + "pray 0; day; pray 0; day; pray 0; day; pray 0" + "; undo".repeat(15));
        all.put("some acts undone", "text M2" + EIGHT + "K000K011K060K111; mine; pray 0; pray 3; day; undo; undo; walk 2 2; undo");
        all.put("a doubt where nothing is loose", "text M9K000; mine; doubt 0; doubt 0");
        all.put("forty days on", "text M9C00105K000K011; mine; pray 0" + "; day".repeat(40));
        all.put("refused calls", "text M9C00009K000K110; mine; write 9 1; oath 0; oath 2; walk 0 0; walk 0 12; undo; again 0;"
            + " keep 2; see 12 0; see 0 101; best 4; month 31 0; chance 0 11 true; psalm 9 0; down 12");
    }

    private static void ofWhatIsSeenAndKept(Map<String, String> all) {
        String mine = "text M4" + EIGHT + "K000K011K060K111; mine; ";
        all.put("something seen", mine + "see 0 4; see 3 0");
        all.put("something seen to be fallen", mine + "see 0 100; see 4 100");
        all.put("what can't be seen", mine + "see 0 4; see 0 5");
        all.put("six seen", mine + "see 3 0; see 8 0; see 3 0; see 10 1; see 3 0; see 8 0");
        all.put("six seen and unseen", mine + "see 3 0; see 8 0; see 3 0; see 10 1; see 3 0; see 8 0; unsee");
        all.put("seen, and then acts", mine + "see 4 3; pray 2; day; walk 2 10");
        all.put("a seed, and months on", mine + "seed -5; month 3 5; month 30 10");
        all.put("kept in 0", mine + "pray 0; day; keep 0; pray 3");
        all.put("kept in both", mine + "keep 1; pray 2; day; keep 0; pray 0; day");
        all.put("gone on from 0", mine + "pray 2; day; keep 0; pray 3; day; again 0");
        all.put("gone on from 1, and acts", mine + "pray 2; keep 1; pray 3; day; again 1; pray 1; walk 3 10");
        all.put("kept, and the mine told anew", mine + "keep 0; keep 1; pray 0; mine");
        all.put("kept, and a mine that is none", mine + "keep 0; text M; mine; pray 2");
    }

    private static List<String[]> calls() {
        String[] cells = {LOW, "-1", "0", "5", "11", "12", "32", HIGH};
        String[] monks = {LOW, "-1", "0", "1", "2", "3", "4", "32", HIGH};
        String[] few = {LOW, "-1", "0", "1", "2", "3", "4", HIGH};
        String[] slots = {LOW, "-1", "0", "1", "2", "31", "32", HIGH};
        List<String[]> all = new ArrayList<>();
        for (String name : new String[] {"wipe", "fault", "mine", "day", "undo", "oaths", "unsee"}) {
            put(all, name);
        }
        put(all, "write", new String[] {LOW, "-1", "0", "1", "2", "7", "8", "9", "72", HIGH},
            new String[] {"77", "-1", "-9223372036854775808", "5562554935590277171"});
        put(all, "about", new String[] {LOW, "-1", "0", "1", "2", "3", "4", "5", "6", "7", "8", "9", "10", HIGH});
        put(all, "cell", cells, new String[] {LOW, "-1", "0", "1", "2", "3", "4", "5", "6", HIGH});
        put(all, "monk", monks, few);
        for (String name : new String[] {"pray", "oath", "doubt", "falls"}) {
            put(all, name, new String[][] {monks});
        }
        put(all, "walk", monks, new String[] {LOW, "-1", "0", "1", "2", "4", "5", "6", "7", "10", "11", "12", "32", HIGH});
        put(all, "psalm", new String[] {LOW, "-1", "0", "1", "2", "3", "8", "9", HIGH},
            new String[] {LOW, "-1", "0", "1", "3", "9", "10", "12", "100", "210", "3210", "12301230", "99999999", "100000000", HIGH});
        put(all, "best", new String[][] {few});
        put(all, "bestAt", few, few);
        put(all, "down", new String[][] {cells});
        put(all, "see", cells, new String[] {LOW, "-1", "0", "1", "99", "100", "101", HIGH});
        put(all, "silent", new String[][] {few});
        put(all, "chance", cells, new String[] {LOW, "-1", "0", "1", "5", "10", "11", HIGH}, new String[] {"true", "false"});
        put(all, "seed", new String[][] {{"0", "-1", "9223372036854775807"}});
        put(all, "month", new String[] {LOW, "-1", "0", "1", "2", "30", "31", HIGH},
            new String[] {LOW, "-1", "0", "3", "10", "11", HIGH});
        put(all, "keep", new String[][] {slots});
        put(all, "again", new String[][] {slots});
        return all;
    }

    /** The call with each of the first arguments, with each of the second ones, and so on. */
    private static void put(List<String[]> all, String name, String[]... arguments) {
        List<String[]> calls = List.of(new String[][] {{name}});
        for (String[] values : arguments) {
            List<String[]> more = new ArrayList<>();
            for (String[] call : calls) {
                for (String value : values) {
                    String[] longer = new String[call.length + 1];
                    System.arraycopy(call, 0, longer, 0, call.length);
                    longer[call.length] = value;
                    more.add(longer);
                }
            }
            calls = more;
        }
        all.addAll(calls);
    }

    private static Map<String, Method> methodsOf(Class<?> one) {
        Map<String, Method> all = new HashMap<>();
        for (Method method : one.getDeclaredMethods()) {
            all.put(method.getName(), method);
        }
        return all;
    }

    private void write(String text) {
        for (int i = 0; i < text.length(); i += 8) {
            String part = text.substring(i, Math.min(text.length(), i + 8));
            long v = 0;
            for (char sign : part.toCharArray()) {
                v = v << 8 | sign;
            }
            ask("write", "" + part.length(), "" + v);
        }
    }

    /** The call's name, and its arguments behind it. */
    private long ask(String... call) {
        Class<?>[] types = OF_CLASS.get(call[0]).getParameterTypes();
        Object[] values = new Object[types.length];
        for (int i = 0; i < values.length; i++) {
            String word = call[i + 1];
            if (types[i] == int.class) {
                values[i] = Integer.parseInt(word);
            } else if (types[i] == long.class) {
                values[i] = Long.parseLong(word);
            } else {
                values[i] = Boolean.parseBoolean(word);
            }
        }
        return both(call[0], values);
    }

    private long both(String name, Object... values) {
        try {
            long got = ((Number) OF_CLASS.get(name).invoke(x, values)).longValue();
            long want = ((Number) OF_PLAIN.get(name).invoke(plain, values)).longValue();
            DUE.is(got == want ? "" : state + ": " + name + List.of(values), got, want);
            return got;
        } catch (InvocationTargetException e) {
            throw new IllegalStateException(state + ": " + name + List.of(values), e.getCause());
        } catch (IllegalAccessException e) {
            throw new IllegalStateException(name, e);
        }
    }

    /** All that shows: some 250 calls, by which the object is taken apart. */
    private void all() {
        some();
        for (int cell = 0; cell < 12; cell++) {
            for (int what = 0; what < 6; what++) {
                both("cell", cell, what);
            }
        }
        for (int monk = 0; monk < 4; monk++) {
            for (int what = 0; what < 4; what++) {
                both("monk", monk, what);
            }
        }
        both("fault");
        both("silent", 0);
        both("silent", 1);
        both("seed", 0L);
        for (int i = 0; i < 15; i++) {
            both("undo");
            both("about", 3);
        }
        some();
        for (int slot = 0; slot < 2; slot++) {
            both("again", slot);
            some();
        }
        both("mine");
        some();
    }

    private void some() {
        for (int what = 0; what < 10; what++) {
            both("about", what);
        }
        for (int cell = 0; cell < 12; cell++) {
            both("cell", cell, 1);
        }
        for (int monk = 0; monk < 4; monk++) {
            both("monk", monk, 0);
        }
    }

    private static void refusalsAreThoseOfThePromises() {
        Map<String, Integer> numbers = Map.of("UNKNOWN", -1, "BAD", -2, "LATE", -3, "FULL", -4, "NONE", -9);
        Pattern head = Pattern.compile("`(?:int|long) (\\w+)\\([^`]*\\)`: (.*)");
        int promises = 0;
        for (String place : Document.places()) {
            Matcher promise = head.matcher(Document.piece(place));
            if (place.startsWith("Promise ") && promise.matches()) {
                promises++;
                TreeSet<Long> named = new TreeSet<>();
                for (Map.Entry<String, Integer> number : numbers.entrySet()) {
                    if (promise.group(2).matches(".*\\b" + number.getKey() + "\\b.*")) {
                        named.add((long) number.getValue());
                    }
                }
                DUE.same("refusals of " + promise.group(1) + ": " + named,
                    ANSWERED.getOrDefault(promise.group(1), new TreeSet<>()).toString(), named.toString());
            }
        }
        DUE.is("promises of calls", promises, 27);
    }
}
