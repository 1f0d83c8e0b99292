import java.util.ArrayList;
import java.util.List;
import java.util.Random;

/** Runs of calls by lots, each answer beside that of the plain model. Seeds are fixed: the same runs each time. */
public final class ModelTest {
    private static final int RUNS = 3000;
    private static final int CALLS = 500;

    private final Random random;
    private final YearWord it = new YearWord();
    private final Model model = new Model();
    private final List<String> calls = new ArrayList<>();
    private boolean wrong;

    private ModelTest(long seed) {
        random = new Random(seed);
    }

    public static void main(String[] args) {
        int runs = args.length > 0 ? Integer.parseInt(args[0]) : RUNS;
        long start = args.length > 1 ? Long.parseLong(args[1]) : 0;
        int failed = 0;
        for (long seed = start; seed < start + runs && failed < 3; seed++) {
            ModelTest run = new ModelTest(seed);
            run.go();
            if (run.wrong) {
                failed++;
                System.out.println("run of seed " + seed);
                run.calls.forEach(call -> System.out.println("  " + call));
            }
        }
        System.out.println(failed == 0 ? "all answers are as the model's" : "answers are not as the model's");
        if (failed > 0) System.exit(1);
    }

    private void due(String call, long got, long want) {
        calls.add(call + " answered " + got + (got == want ? "" : ", due is " + want));
        if (got != want) wrong = true;
    }

    private int below(int n) {
        return random.nextInt(n);
    }

    private static final int[] ODD = {Integer.MIN_VALUE, -9, -2, -1, 0, 1, 41, 81, 100, Integer.MAX_VALUE};

    /** Mostly a number that is one; now and then one that is none. */
    private int some(int n) {
        if (below(25) == 0) return ODD[below(ODD.length)];
        if (below(40) == 0) return n;
        return n == 0 ? 0 : below(n);
    }

    private void go() {
        if (below(10) > 0) write();
        while (calls.size() < CALLS && !wrong) {
            liven();
            step();
            told();
        }
    }

    /** Where nothing more can come of it, it mostly starts anew. */
    private void liven() {
        if (model.nodes.isEmpty()) {
            if (below(10) == 0) write();
        } else if (model.isOver(model.now()) && below(4) > 0) {
            int n = below(2) == 0 ? 0 : below(model.said.size() + 1);
            due("undo(" + n + ")", it.undo(n), model.undo(n));
            if (model.isOver(model.now()) && model.said.isEmpty()) write();
        }
    }

    private void told() {
        same("asked()", it.asked(), model.asked);
        same("upper()", it.upper(), model.upper.longValueExact());
        same("lower()", it.lower(), model.lower.longValueExact());
        same("finding()", it.finding(), model.finding);
        if (below(8) == 0) due("digest()", it.digest(), model.digest());
    }

    private void same(String call, long got, long want) {
        if (got != want) due(call, got, want);
    }

    /** A TEXT that is a SPEECH, but for a slip now and then. */
    private void write() {
        StringBuilder text = new StringBuilder();
        boolean deep = below(2) == 0;
        int nodes = deep ? 6 + below(4) : 2 + below(8);
        int richness = below(3);
        List<Integer> sources = new ArrayList<>();
        for (int x = 0; x < nodes; x++) {
            char letter = deep ? deepLetterAt(x, nodes) : letterAt(x, nodes);
            text.append(letter);
            if (letter == 'e' || letter == 'o') text.append(below(richness == 0 ? 6 : 3));
            else if (x < nodes - 1) sources.add(x);
            blanks(text);
        }
        int budget = Math.min(15, (78 - text.length()) / 4);
        if (deep && below(2) == 0) budget -= Math.min(budget, 3);
        int words = sources.isEmpty() ? 0 : deep || richness == 2 ? budget : below(budget + 1);
        int[] degree = new int[nodes];
        for (int k = 0; k < words; k++) {
            int from = k < sources.size() && (deep || below(4) > 0) ? sources.get(k) : sources.get(below(sources.size()));
            if (degree[from] == 4 && below(20) > 0) continue;
            int to = from + 1 + below(deep || below(2) == 0 ? Math.min(2, nodes - 1 - from) : nodes - 1 - from);
            int sound = below(20) > 0 ? degree[from] * 2 + below(2) : below(10);
            text.append('x').append(from).append(to).append(Math.min(sound, 9));
            degree[from]++;
            if (below(6) == 0) blanks(text);
        }
        int deeds = Math.min(below(5), (80 - text.length()) / 5);
        for (int d = 0; d < deeds; d++) {
            text.append('d').append(1 + below(below(2) == 0 ? 2 : 5)).append(below(below(2) == 0 ? 3 : 10)).append(below(3)).append(below(10));
            if (below(4) == 0) blanks(text);
        }
        if (below(12) == 0 && text.length() > 0) text.setCharAt(below(text.length()), "necwolxd 0123456789z".charAt(below(20)));
        if (below(30) == 0 && text.length() > 0) text.setLength(below(text.length()));
        if (text.length() > 80) text.setLength(80);
        put(below(4), text.toString());
    }

    private char letterAt(int x, int nodes) {
        if (x == nodes - 1) return below(6) > 0 ? "eo".charAt(below(2)) : 'n';
        if (x == 0 && below(15) > 0) return "nnncwl".charAt(below(6));
        return "nnnnnncwleo".charAt(below(11));
    }

    private char deepLetterAt(int x, int nodes) {
        if (x >= nodes - 3) return "eon".charAt(below(x == nodes - 1 ? 2 : 3));
        return "nnnncwl".charAt(below(7));
    }

    private void blanks(StringBuilder text) {
        if (below(8) == 0) text.append(" ".repeat(1 + below(2)));
    }

    private void put(int t, String signs) {
        due("text(" + t + ", " + signs.length() + ") [" + signs + "]", it.text(t, signs.length()), model.text(t, signs.length()));
        for (int i = 0; i < signs.length(); i++) {
            same("put", it.put(t, i, signs.charAt(i)), model.put(t, i, signs.charAt(i)));
        }
        due("fault(" + t + ")", it.fault(t), model.fault(t));
        due("speech(" + t + ")", it.speech(t), model.speech(t));
    }

    private void step() {
        switch (below(12)) {
            case 0 -> rowStep();
            case 1 -> textStep();
            case 2 -> partStep();
            case 3, 4, 5 -> yearStep();
            case 6, 7 -> outlookStep();
            case 8 -> planStep();
            case 9, 10 -> sentenceStep();
            default -> soundStep();
        }
    }

    private void rowStep() {
        int r = some(6);
        int i = some(below(2) == 0 ? 40 : 8);
        int v = below(4) == 0 ? random.nextInt() : below(30) - 15;
        switch (below(6)) {
            case 0 -> {
                int n = below(2) == 0 ? some(41) : some(9);
                due("row(" + r + ", " + n + ")", it.row(r, n), model.row(r, n));
            }
            case 1 -> due("lay(" + r + ", " + i + ", " + v + ")", it.lay(r, i, v), model.lay(r, i, v));
            case 2 -> due("at(" + r + ", " + i + ")", it.at(r, i), model.at(r, i));
            case 3 -> {
                if (below(4) == 0) due("tear(" + r + ")", it.tear(r), model.tear(r));
            }
            case 4 -> {
                int to = some(6);
                int j = some(6);
                int n = some(9);
                due("copy(" + r + ", " + i + ", " + to + ", " + j + ", " + n + ")", it.copy(r, i, to, j, n), model.copy(r, i, to, j, n));
            }
            default -> due("mean(" + r + ")", it.mean(r), model.mean(r));
        }
    }

    private void textStep() {
        int t = some(4);
        int i = some(80);
        int v = below(2) == 0 ? random.nextInt() : "necwolxd 0123456789".charAt(below(19));
        switch (below(6)) {
            case 0 -> {
                int n = some(81);
                due("text(" + t + ", " + n + ")", it.text(t, n), model.text(t, n));
            }
            case 1 -> due("put(" + t + ", " + i + ", " + v + ")", it.put(t, i, v), model.put(t, i, v));
            case 2 -> due("fault(" + t + ")", it.fault(t), model.fault(t));
            case 3 -> {
                if (below(4) == 0) due("speech(" + t + ")", it.speech(t), model.speech(t));
            }
            case 4 -> {
                if (below(6) == 0) write();
            }
            default -> {
                int f = some(6);
                due("findings(" + f + ")", it.findings(f), model.findings(f));
            }
        }
    }

    private void partStep() {
        int x = some(9);
        int what = some(6);
        switch (below(6)) {
            case 0 -> due("node(" + x + ", " + what + ")", it.node(x, what), model.node(x, what));
            case 1 -> due("word(" + x + ", " + what + ")", it.word(x, what), model.word(x, what));
            case 2 -> due("deed(" + x / 2 + ", " + what + ")", it.deed(x / 2, what), model.deed(x / 2, what));
            case 3 -> due("mark(" + x + ", " + what + ")", it.mark(x, what), model.mark(x, what));
            case 4 -> {
                int v = some(10);
                due("prize(" + x / 2 + ", " + v + ")", it.prize(x / 2, v), model.prize(x / 2, v));
            }
            default -> due("count(" + x + ")", it.count(x), model.count(x));
        }
    }

    private void yearStep() {
        int k = some(3);
        switch (below(10)) {
            case 0, 1, 2 -> sayOne();
            case 3, 4 -> {
                int d = some(below(10) == 0 ? 4 : model.deeds.size());
                due("begin(" + d + ")", it.begin(d), model.begin(d));
            }
            case 5 -> {
                int n = below(3) == 0 ? 0 : some(model.said.size() + 1);
                due("undo(" + n + ")", it.undo(n), model.undo(n));
            }
            case 6 -> due("keep(" + k + ")", it.keep(k), model.keep(k));
            case 7 -> due("on(" + k + ")", it.on(k), model.on(k));
            case 8 -> {
                int n = below(3) == 0 ? some(9) : 1;
                int seed = below(6) == 0 ? some(2) : 1 + below(2147483646);
                due("lots(" + n + ", " + seed + ")", it.lots(n, seed), model.lots(n, seed));
            }
            default -> {
                due("here()", it.here(), model.here());
                told();
                due("over()", it.over(), model.over());
                told();
                int r = some(6);
                due("told(" + r + ")", it.told(r), model.told(r));
            }
        }
    }

    private void sayOne() {
        List<Integer> from = model.nodes.isEmpty() ? List.of() : model.wordsFrom(model.now());
        int k = from.isEmpty() || below(8) == 0 ? some(14) : from.get(below(from.size()));
        due("say(" + k + ")", it.say(k), model.say(k));
    }

    private void outlookStep() {
        switch (below(5)) {
            case 0 -> {
                int m = some(6);
                due("odds(" + m + ")", it.odds(m), model.odds(m));
            }
            case 1 -> due("years()", it.years(), model.years());
            case 2 -> {
                int n = some(9);
                due("just(" + n + ")", it.just(n), model.just(n));
            }
            case 3 -> due("known()", it.known(), model.known());
            default -> due("tell()", it.tell(), model.tell());
        }
    }

    private void planStep() {
        if (below(2) == 0) due("worst()", it.worst(), model.worst());
        else due("hopes()", it.hopes(), model.hopes());
    }

    /** WORDS that lead from here on to where it is OVER, or are cut short, or have a slip. */
    private void walkToRow(int r) {
        List<Integer> walk = new ArrayList<>();
        if (!model.nodes.isEmpty()) {
            List<List<Integer>> all = model.walks(model.now());
            walk.addAll(all.get(below(all.size())));
        }
        if (below(15) == 0 && !walk.isEmpty()) walk.set(below(walk.size()), some(14));
        if (below(25) == 0 && !walk.isEmpty()) walk.remove(walk.size() - 1);
        if (below(25) == 0) walk.add(some(14));
        layAll(r, walk);
    }

    private void layAll(int r, List<Integer> list) {
        it.row(r, list.size());
        model.row(r, list.size());
        for (int i = 0; i < list.size(); i++) {
            it.lay(r, i, list.get(i));
            model.lay(r, i, list.get(i));
        }
        calls.add("row " + r + " is " + list);
    }

    private void sentenceStep() {
        int r = below(6);
        if (below(10) > 0) walkToRow(r);
        if (below(20) == 0) r = some(6);
        switch (below(3)) {
            case 0 -> due("brings(" + r + ")", it.brings(r), model.brings(r));
            case 1 -> due("knows(" + r + ")", it.knows(r), model.knows(r));
            default -> due("least(" + r + ")", it.least(r), model.least(r));
        }
    }

    private void soundStep() {
        int r = below(6);
        if (below(10) > 0) {
            walkToRow(r);
            for (int i = 0; i < model.rows[r].length; i++) {
                int k = model.rows[r][i];
                int sound = k >= 0 && k < model.words.size() ? model.words.get(k).sound() : k;
                int v = below(3) == 0 ? -9 : below(12) == 0 ? some(10) : sound;
                it.lay(r, i, v);
                model.lay(r, i, v);
            }
            calls.add("row " + r + " is " + java.util.Arrays.toString(model.rows[r]));
        }
        if (below(20) == 0) r = some(6);
        switch (below(3)) {
            case 0 -> due("heard(" + r + ")", it.heard(r), model.heard(r));
            case 1 -> due("slips(" + r + ")", it.slips(r), model.slips(r));
            default -> {
                int to = some(6);
                due("first(" + r + ", " + to + ")", it.first(r, to), model.first(r, to));
            }
        }
    }
}
