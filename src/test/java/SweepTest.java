import java.lang.reflect.InvocationTargetException;
import java.lang.reflect.Method;
import java.lang.reflect.Modifier;
import java.util.ArrayList;
import java.util.Arrays;
import java.util.LinkedHashMap;
import java.util.List;
import java.util.Map;

/**
 * Every call in several states with every boundary number for each of its ints, the least and the greatest too:
 * the answer, and all that is told behind it, beside those of the plain model.
 */
public final class SweepTest {
    private static final int MIN = Integer.MIN_VALUE, MAX = Integer.MAX_VALUE;
    private static final int[] NUMBERS = {MIN, -10, -9, -1, 0, 1, 2, 3, 4, 5, 6, 8, 9, 10, 11, 13, 14, 39, 40, 41, 79, 80, 81, MAX - 1, MAX};
    private static final int[] VALUES = {MIN, -129, -1, 0, 255, 256, MAX};
    /** copy() has five ints: fewer numbers keep the sweep short. */
    private static final int[] FEW_ROWS = {-1, 0, 1, 3, 5, 6};
    private static final int[] FEW_PLACES = {MIN, -1, 0, 1, 2, 40, MAX};
    private static final int MOST_CALLS = 512;

    private static final Map<String, String[]> STATES = new LinkedHashMap<>();

    static {
        String speech = "ncwne0lo1ne2 x010x021x132x143x240x234x366x371x565x785x350 d1205d2119d3027";
        STATES.put("new", new String[] {});
        STATES.put("ROWS and TEXTS alone", new String[] {"row 0 40", "row 1 2", "row 3 0", "row 4 9", "TEXT 0 nnz", "text 2 0"});
        STATES.put("on the way", new String[] {"TEXT 0 " + speech, "TEXT 1 n z", "text 2 0", "speech 0", "keep 0", "begin 1", "say 0", "keep 1", "say 2", "row 0 40", "row 1 2", "lay 1 0 10", "lay 1 1 8",
            "row 2 8", "row 3 0", "row 4 9"});
        STATES.put("OVER at an OATH", new String[] {"TEXT 3 " + speech, "speech 3", "begin 1", "say 0", "say 2", "keep 2", "say 6", "row 0 0", "row 1 1"});
        STATES.put("OVER where it is MUTE", new String[] {"TEXT 0 nlnx010x120d1309d2000d1111d1222", "speech 0", "begin 1", "say 0", "say 1", "keep 0", "row 2 0"});
        STATES.put("OVER at once", new String[] {"TEXT 0 e3n d1234", "speech 0", "row 5 0"});
        STATES.put("full", new String[] {"TEXT 0 nnnnnx010x011x012x013x120x121x122x123x230x231x232x233x340x341", "speech 0", "keep 0", "keep 1", "keep 2",
            "row 0 40", "row 1 40", "row 2 40", "row 3 40", "row 4 40", "row 5 40", "text 1 80", "text 2 80", "text 3 80"});
    }

    private static final Map<String, Method> METHODS = new LinkedHashMap<>();

    private static int wrong = 0;
    private static int swept = 0;
    /** Goes on being asked as long as it refuses, as nothing changes then. */
    private static SweepTest pair = null;

    private final YearWord it = new YearWord();
    private final Model model = new Model();
    private int calls = 0;
    private long due;

    public static void main(String[] args) {
        for (String state : STATES.keySet()) {
            pair = null;
            for (Method method : YearWord.class.getMethods()) {
                if (method.getDeclaringClass() == YearWord.class) sweep(state, method, new ArrayList<>());
            }
        }
        System.out.println(wrong == 0 ? "all " + swept + " calls are as the model's" : wrong + " calls are not as the model's");
        if (wrong != 0) System.exit(1);
    }

    private static void sweep(String state, Method method, List<Integer> given) {
        if (given.size() == method.getParameterCount()) {
            ask(state, method.getName(), given.stream().mapToInt(v -> v).toArray());
            return;
        }
        for (int v : numbers(method.getName(), given.size())) {
            List<Integer> more = new ArrayList<>(given);
            more.add(v);
            sweep(state, method, more);
        }
    }

    private static void ask(String state, String call, int... given) {
        swept++;
        if (pair == null) {
            pair = new SweepTest();
            for (String step : STATES.get(state)) pair.step(step);
        }
        long got = pair.both(call, given);
        String trouble = pair.trouble(got);
        if (!trouble.isEmpty() && wrong++ < 20) System.out.println(state + ": " + call + Arrays.toString(given) + " " + trouble);
        boolean refused = got == -1 || got == -3 || got == -4;
        if (!refused || !trouble.isEmpty() || pair.calls > MOST_CALLS - 20) pair = null;
    }

    private static int[] numbers(String call, int which) {
        if (call.equals("copy")) return which == 0 || which == 2 ? FEW_ROWS : FEW_PLACES;
        return which == 2 ? VALUES : NUMBERS;
    }

    private void step(String step) {
        String[] parts = step.split(" ", 3);
        if (parts[0].equals("TEXT")) {
            int t = Integer.parseInt(parts[1]);
            both("text", t, parts[2].length());
            for (int i = 0; i < parts[2].length(); i++) both("put", t, i, parts[2].charAt(i));
            return;
        }
        both(parts[0], Arrays.stream(step.split(" ")).skip(1).mapToInt(Integer::parseInt).toArray());
    }

    /** What the class answers; what the model does is due. */
    private long both(String call, int... given) {
        calls++;
        due = switch (call) {
            case "asked" -> model.asked;
            case "upper" -> model.upper.longValueExact();
            case "lower" -> model.lower.longValueExact();
            case "finding" -> model.finding;
            default -> answer(model, call, given);
        };
        return answer(it, call, given);
    }

    /** Nothing, if the class answered as the model did, and tells the same behind it. */
    private String trouble(long got) {
        calls += 10;
        if (got != due) return "answered " + got + ", due is " + due;
        if (it.asked() != model.asked) return "told " + it.asked() + ", due is " + model.asked;
        if (it.upper() != model.upper.longValueExact()) return "told " + it.upper() + " above, due is " + model.upper;
        if (it.lower() != model.lower.longValueExact()) return "told " + it.lower() + " below, due is " + model.lower;
        if (it.finding() != model.finding) return "found " + it.finding() + ", due is " + model.finding;
        for (int f = 1; f <= 5; f++) if (it.findings(f) != model.findings(f)) return "changed findings(" + f + ")";
        return it.digest() == model.digest() ? "" : "left another digest";
    }

    private static Method methodOf(Class<?> of, String call) {
        return METHODS.computeIfAbsent(of.getName() + "." + call, key -> {
            for (Method m : of.getDeclaredMethods()) {
                if (m.getName().equals(call) && !Modifier.isPrivate(m.getModifiers())) return m;
            }
            throw new IllegalStateException("no " + key);
        });
    }

    private static long answer(Object of, String call, int... given) {
        try {
            return ((Number) methodOf(of.getClass(), call).invoke(of, Arrays.stream(given).boxed().toArray())).longValue();
        } catch (InvocationTargetException thrown) {
            throw new IllegalStateException(call + Arrays.toString(given) + " threw", thrown.getCause());
        } catch (IllegalAccessException thrown) {
            throw new IllegalStateException(thrown);
        }
    }
}
