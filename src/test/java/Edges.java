import java.lang.reflect.InvocationTargetException;
import java.lang.reflect.Method;
import java.util.ArrayList;
import java.util.Arrays;
import java.util.HashMap;
import java.util.List;
import java.util.Map;
import java.util.TreeMap;
import java.util.regex.Matcher;
import java.util.regex.Pattern;

/**
 * Boundary cases, each a test of its own on a new object, told by its promise and its name.
 * A case is a row of steps:
 *
 * <pre>
 *   row(0, 41) = BAD             a call and the answer that is due; MIN, MAX, 'n' may stand for ints
 *   at(0, 40) = BEYOND           FINDING is due, and finding() is then that one
 *   worst() = 2 asked 0          asked() is then 0
 *   odds(1) = 1 by 1/2           upper() and lower() are then 1 and 2
 *   SPEECH nne0 x010             TEXT 0 is written, and is taken as the SPEECH
 *   TEXT 2 n z                   TEXT 2 is written
 *   ROW 3 1 2 5*6                ROW 3 is laid out, six times 5 at its end
 *   ROW 3 IS 1 2                 it has these ints and no more
 *   SAY 0 2                      WORDS are SAID
 *   DIGEST 0 1 -1                digest() is what these come to
 *   RICH                         much is there: see RICH
 * </pre>
 *
 * For each call that is due to be refused, two more objects go through the steps ahead of it, one of them
 * is refused, and both then have to answer alike whatever they are asked, but for finding() and findings().
 */
final class Edges {
    static final String HILLS = "ncwne0lo1ne2 x010x021x132x143x240x234x366x371x565x785x350 d1205d2119d3027";

    /**
     * HILLS with WORDS 0, 2 SAID, so that it is at NODE 3; DEED 1 is BEGUN, one of its two YEARS is left.
     * YEARS are kept in places 0 and 1. ROW 0 is full, 1 is a SENTENCE from here, 2 has its SOUNDS, 3 is empty,
     * 4 has nine places, 5 is missing. TEXT 1 has a FAULT at 2, 2 is empty, 3 is missing.
     */
    private static final String[] RICH = {
        "SPEECH " + HILLS, "keep(0) = 0", "begin(1) = 2", "say(0) = 1", "keep(1) = 1", "say(2) = 3", "prize(2, 6) = 7",
        "TEXT 1 n z", "text(2, 0) = 0",
        "row(0, 40) = 40", "lay(0, 0, 5) = 1", "lay(0, 39, 7) = 1", "ROW 1 10 8", "ROW 2 0 5", "row(3, 0) = 0", "row(4, 9) = 9",
        "mean(3) = NOUGHT", "odds(1) = 1 by 2/3", "at(0, 39) = 1 asked 7",
    };

    private static final int MOST_CALLS = 512;
    private static final int FINDING = -3;
    private static final List<String> FINDINGS = List.of("", "NOTHING", "BEYOND", "UNLIKE", "NOUGHT", "SIZE");
    private static final Map<String, Integer> NAMES = Map.of(
        "BAD", -1, "STATE", -4, "NONE", -9, "MIN", Integer.MIN_VALUE, "MAX", Integer.MAX_VALUE);
    private static final Pattern CALL = Pattern.compile("(\\w+)\\(([^)]*)\\) = (\\S+)(?: asked (\\S+))?(?: by (-?\\d+)/(\\d+))?");
    private static final Map<String, Method> METHODS = new HashMap<>();

    static {
        for (Method m : YearWord.class.getMethods()) {
            if (m.getDeclaringClass() == YearWord.class) METHODS.put(m.getName(), m);
        }
    }

    private final Map<Integer, Integer> cases = new TreeMap<>();
    private int promise;
    private String subject = "";
    private int wrong;

    /** Cases that follow are of this promise. */
    void promise(int number, String name) {
        promise = number;
        subject = name;
        cases.put(number, 0);
    }

    /** A case on an object that is new. */
    void edge(String name, String... steps) {
        cases.merge(promise, 1, Integer::sum);
        Play play = new Play(name);
        for (int i = 0; i < steps.length; i++) {
            play.step(steps[i]);
            if (isRefusal(steps[i])) changesNothing(name, Arrays.copyOf(steps, i), steps[i]);
        }
    }

    /** A case on an object where much is there that must not change. */
    void rich(String name, String... steps) {
        List<String> all = new ArrayList<>(List.of("RICH"));
        all.addAll(Arrays.asList(steps));
        edge(name, all.toArray(new String[0]));
    }

    /** Each of these is a case of its own where much is there, told by the step alone. */
    void each(String... steps) {
        for (String step : steps) rich(step, step);
    }

    /** Every promise from one to another has cases, and all were as due; ends with exit code 1 otherwise. */
    void end(int from, int to) {
        int all = 0;
        for (int p = from; p <= to; p++) {
            int many = cases.getOrDefault(p, 0);
            if (many == 0) report("promise " + p + " has no cases");
            all += many;
        }
        System.out.println(wrong == 0 ? "all " + all + " cases of promises " + from + " to " + to + " are as due" : wrong + " answers are not as due");
        if (wrong != 0) System.exit(1);
    }

    private void report(String what) {
        wrong++;
        System.out.println(what);
    }

    private static boolean isRefusal(String step) {
        Matcher m = CALL.matcher(step);
        return m.matches() && (m.group(3).equals("BAD") || m.group(3).equals("STATE") || FINDINGS.contains(m.group(3)));
    }

    private void changesNothing(String name, String[] ahead, String refused) {
        Play one = new Play(name + ", once " + refused);
        Play other = new Play(name);
        for (String step : ahead) {
            one.step(step);
            other.step(step);
        }
        Matcher m = CALL.matcher(refused);
        if (!m.matches()) return;
        one.call(m.group(1) + "(" + m.group(2) + ")");
        int found = FINDINGS.indexOf(m.group(3));
        one.due("finding()", one.call("finding()"), found > 0 ? found : other.call("finding()"));
        for (int f = 1; f <= 5; f++) {
            String call = "findings(" + f + ")";
            one.due(call, one.call(call), other.call(call) + (f == found ? 1 : 0));
        }
        List<String> calls = probes(one.call("count(3)"));
        for (String call : calls) one.due(call, one.call(call), other.call(call));
    }

    /** All that can be asked here, then what undo() and on() bring back. */
    private static List<String> probes(long said) {
        List<String> calls = new ArrayList<>(List.of("asked()", "upper()", "lower()", "digest()"));
        calls.addAll(List.of("here()", "asked()", "over()", "asked()", "years()", "asked()", "known()", "tell()", "asked()"));
        for (int m = 0; m < 6; m++) calls.addAll(List.of("odds(" + m + ")", "upper()", "lower()"));
        for (int n = 0; n <= 8; n++) calls.add("just(" + n + ")");
        plans(calls);
        for (int d = 0; d < 4; d++) calls.add("begin(" + d + ")");
        plans(calls);
        for (long n = said; n >= 0; n--) {
            calls.add("undo(" + n + ")");
            calls.add("digest()");
            plans(calls);
        }
        for (int k = 0; k < 3; k++) {
            calls.addAll(List.of("on(" + k + ")", "digest()"));
            plans(calls);
            calls.addAll(List.of("undo(0)", "digest()"));
            plans(calls);
        }
        return calls;
    }

    private static void plans(List<String> calls) {
        calls.addAll(List.of("worst()", "asked()", "hopes()", "upper()", "lower()"));
    }

    private static long number(String token) {
        if (token.startsWith("'")) return token.charAt(1);
        Integer named = NAMES.get(token);
        return named != null ? named : Long.parseLong(token);
    }

    private static int[] ints(String list) {
        List<Integer> all = new ArrayList<>();
        for (String token : list.trim().split("[ ,]+")) {
            if (token.isEmpty()) continue;
            String[] parts = token.split("\\*");
            int times = parts.length > 1 ? Integer.parseInt(parts[1]) : 1;
            for (int i = 0; i < times; i++) all.add((int) number(parts[0]));
        }
        return all.stream().mapToInt(v -> v).toArray();
    }

    /** One object on its way through the steps of a case. */
    private final class Play {
        private final YearWord it = new YearWord();
        private final String name;
        private int calls;

        Play(String name) {
            this.name = name;
        }

        void due(String what, long got, long want) {
            if (got != want) {
                report("promise " + promise + " " + subject + ", " + name + ": " + what + " answered " + got + ", due is " + want);
            }
        }

        void step(String step) {
            String[] parts = step.split(" ", 2);
            String rest = parts.length > 1 ? parts[1] : "";
            switch (parts[0]) {
                case "RICH" -> {
                    for (String s : RICH) step(s);
                }
                case "SPEECH" -> {
                    write(0, rest);
                    due(step, call("speech(0)") >= 2 ? 1 : 0, 1);
                }
                case "TEXT" -> write(rest.charAt(0) - '0', rest.length() > 2 ? rest.substring(2) : "");
                case "ROW" -> row(rest.charAt(0) - '0', rest.substring(1).trim());
                case "SAY" -> {
                    for (int k : ints(rest)) due("say(" + k + ") is taken", call("say(" + k + ")") >= 0 ? 1 : 0, 1);
                }
                case "DIGEST" -> {
                    long h = 17;
                    for (int v : ints(rest)) h = 31 * h + v;
                    due("digest()", call("digest()"), h);
                }
                default -> asked(step);
            }
        }

        private void asked(String step) {
            Matcher m = CALL.matcher(step);
            if (!m.matches()) {
                due("a step that can't be read: " + step, 0, 1);
                return;
            }
            String call = m.group(1) + "(" + m.group(2) + ")";
            int found = FINDINGS.indexOf(m.group(3));
            due(call, call(call), found > 0 ? FINDING : number(m.group(3)));
            if (found > 0) due("finding() behind " + call, call("finding()"), found);
            if (m.group(4) != null) due("asked() behind " + call, call("asked()"), number(m.group(4)));
            if (m.group(5) != null) {
                due("upper() behind " + call, call("upper()"), number(m.group(5)));
                due("lower() behind " + call, call("lower()"), number(m.group(6)));
            }
        }

        private void write(int t, String signs) {
            due("text of '" + signs + "'", call("text(" + t + ", " + signs.length() + ")"), signs.length());
            for (int i = 0; i < signs.length(); i++) call("put(" + t + ", " + i + ", " + (int) signs.charAt(i) + ")");
        }

        private void row(int r, String what) {
            if (what.startsWith("IS")) {
                int[] values = ints(what.substring(2));
                for (int i = 0; i < values.length; i++) step("at(" + r + ", " + i + ") = 1 asked " + values[i]);
                step("at(" + r + ", " + values.length + ") = BEYOND");
                return;
            }
            int[] values = ints(what);
            due("row", call("row(" + r + ", " + values.length + ")"), values.length);
            for (int i = 0; i < values.length; i++) call("lay(" + r + ", " + i + ", " + values[i] + ")");
        }

        /** What a call answers; what it throws is told, and answered by a number that is never due. */
        long call(String call) {
            calls++;
            if (calls == MOST_CALLS + 1) report("promise " + promise + ", " + name + ": more than " + MOST_CALLS + " calls");
            int open = call.indexOf('(');
            Method method = METHODS.get(call.substring(0, open));
            int[] given = ints(call.substring(open + 1, call.length() - 1));
            Object[] arguments = Arrays.stream(given).boxed().toArray();
            try {
                return ((Number) method.invoke(it, arguments)).longValue();
            } catch (InvocationTargetException thrown) {
                report("promise " + promise + ", " + name + ": " + call + " threw " + thrown.getCause());
            } catch (IllegalAccessException | RuntimeException thrown) {
                report("promise " + promise + ", " + name + ": " + call + " can't be called: " + thrown);
            }
            return -987654321;
        }
    }
}
