import java.math.BigInteger;
import java.nio.charset.StandardCharsets;
import java.util.ArrayList;
import java.util.Arrays;
import java.util.LinkedHashSet;
import java.util.List;
import java.util.Set;
import java.util.TreeSet;

/**
 * The document told once more, as plainly as can be: every SENTENCE and every PLAN is written out.
 * Far too dear for the class itself, but hard to get wrong in the same way.
 */
final class Model {
    static final int BAD = -1, FINDING = -3, STATE = -4, NONE = -9;
    static final String LETTERS = "necwol";
    static final int MUTE = 6;

    record Node(int kind, int meaning) {
        boolean end() {
            return kind == 1 || kind == 4;
        }
    }

    record Word(int from, int to, int sound) {
    }

    static final class Deed {
        int years, cost, meaning, worth;
        int state, left;
    }

    record DeedState(int state, int left) {
    }

    /** What is kept: WORDS and how DEEDS were ahead of each, and now. */
    record Kept(List<Integer> said, List<List<DeedState>> ahead, List<DeedState> now) {
    }

    final int[][] rows = new int[6][];
    final byte[][] texts = new byte[4][];
    List<Node> nodes = new ArrayList<>();
    List<Word> words = new ArrayList<>();
    List<Deed> deeds = new ArrayList<>();
    List<Integer> said = new ArrayList<>();
    List<List<DeedState>> ahead = new ArrayList<>();
    final Kept[] kept = new Kept[3];
    int asked = 0;
    BigInteger upper = BigInteger.ZERO, lower = BigInteger.ONE;
    int finding = 0;
    final int[] findings = new int[6];

    private int find(int f) {
        finding = f;
        findings[f]++;
        return FINDING;
    }

    private int tell1(int v) {
        asked = v;
        return 1;
    }

    // ---- rows, texts

    int row(int r, int n) {
        if (r < 0 || r > 5 || n > 40) return BAD;
        if (n < 0) return find(5);
        rows[r] = new int[n];
        return n;
    }

    int lay(int r, int i, int v) {
        if (r < 0 || r > 5) return BAD;
        if (rows[r] == null) return find(1);
        if (i < 0 || i >= rows[r].length) return find(2);
        asked = rows[r][i];
        rows[r][i] = v;
        return 1;
    }

    int at(int r, int i) {
        if (r < 0 || r > 5) return BAD;
        if (rows[r] == null) return find(1);
        if (i < 0 || i >= rows[r].length) return find(2);
        return tell1(rows[r][i]);
    }

    int tear(int r) {
        if (r < 0 || r > 5) return BAD;
        if (rows[r] == null) return find(1);
        rows[r] = null;
        return 1;
    }

    int copy(int r, int i, int to, int j, int n) {
        if (r < 0 || r > 5 || to < 0 || to > 5) return BAD;
        if (n < 0) return find(5);
        if (rows[r] == null || rows[to] == null) return find(1);
        if (i < 0 || j < 0 || (long) i + n > rows[r].length || (long) j + n > rows[to].length) return find(2);
        int[] taken = Arrays.copyOfRange(rows[r], i, i + n);
        for (int k = 0; k < n; k++) rows[to][j + k] = taken[k];
        return 1;
    }

    int mean(int r) {
        if (r < 0 || r > 5) return BAD;
        if (rows[r] == null) return find(1);
        if (rows[r].length == 0) return find(4);
        BigInteger sum = BigInteger.ZERO;
        for (int v : rows[r]) sum = sum.add(BigInteger.valueOf(v));
        return tell1(sum.divide(BigInteger.valueOf(rows[r].length)).intValueExact());
    }

    int text(int t, int n) {
        if (t < 0 || t > 3 || n > 80) return BAD;
        if (n < 0) return find(5);
        texts[t] = " ".repeat(n).getBytes(StandardCharsets.ISO_8859_1);
        return n;
    }

    int put(int t, int i, int v) {
        if (t < 0 || t > 3) return BAD;
        if (texts[t] == null) return find(1);
        if (i < 0 || i >= texts[t].length) return find(2);
        int was = texts[t][i] + 1000;
        texts[t][i] = (byte) v;
        return was;
    }

    // ---- a speech

    private final List<Node> readNodes = new ArrayList<>();
    private final List<Word> readWords = new ArrayList<>();
    private final List<Deed> readDeeds = new ArrayList<>();

    /** Stands for the TEXT's end where bytes stand. */
    private static final int CLOSE = 1000;

    /** Which bytes could come next behind the first p ones, or the end. */
    private Set<Integer> canFollow(byte[] text, int p) {
        readNodes.clear();
        readWords.clear();
        readDeeds.clear();
        int start = p;
        int i = 0;
        while (i < p) {
            if (text[i] == 32) {
                i++;
                continue;
            }
            char c = (char) text[i];
            int length = c == 'x' ? 4 : c == 'd' ? 5 : c == 'e' || c == 'o' ? 2 : 1;
            if (i + length > p) {
                start = i;
                break;
            }
            int[] f = new int[5];
            for (int k = 1; k < length; k++) f[k] = text[i + k] - 48;
            if (c == 'x') readWords.add(new Word(f[1], f[2], f[3]));
            else if (c == 'd') {
                Deed d = new Deed();
                d.years = f[1];
                d.cost = f[2];
                d.meaning = f[3];
                d.worth = f[4];
                readDeeds.add(d);
            } else readNodes.add(new Node(LETTERS.indexOf(c), length == 2 ? f[1] : -1));
            i += length;
        }
        Set<Integer> next = new TreeSet<>();
        if (start < p) {
            within(text, start, p - start, next);
        } else {
            between(next);
        }
        return next;
    }

    private void between(Set<Integer> next) {
        next.add(32);
        boolean onlyNodes = readWords.isEmpty() && readDeeds.isEmpty();
        if (onlyNodes && readNodes.size() < 9) for (char c : LETTERS.toCharArray()) next.add((int) c);
        if (readNodes.size() >= 2) {
            next.add(CLOSE);
            if (readDeeds.isEmpty() && readWords.size() < 14) next.add((int) 'x');
            if (readDeeds.size() < 4) next.add((int) 'd');
        }
    }

    private void within(byte[] text, int start, int have, Set<Integer> next) {
        char c = (char) text[start];
        if (c == 'e' || c == 'o') for (int m = 0; m <= 5; m++) next.add(48 + m);
        if (c == 'd') {
            int[] least = {0, 1, 0, 0, 0};
            int[] most = {0, 5, 9, 5, 9};
            for (int v = least[have]; v <= most[have]; v++) next.add(48 + v);
        }
        if (c == 'x') {
            if (have == 1) {
                for (int x = 0; x < readNodes.size(); x++) {
                    int from = x;
                    if (!readNodes.get(x).end() && readWords.stream().filter(w -> w.from == from).count() < 4) next.add(48 + x);
                }
            } else {
                int from = text[start + 1] - 48;
                if (have == 2) for (int x = from + 1; x < readNodes.size(); x++) next.add(48 + x);
                if (have == 3) {
                    for (int s = 0; s <= 9; s++) {
                        int sound = s;
                        if (readWords.stream().noneMatch(w -> w.from == from && w.sound == sound)) next.add(48 + s);
                    }
                }
            }
        }
    }

    private int faultOf(byte[] text) {
        for (int p = 0; p < text.length; p++) {
            if (!canFollow(text, p).contains((int) text[p])) return p;
        }
        return canFollow(text, text.length).contains(CLOSE) ? NONE : text.length;
    }

    int fault(int t) {
        if (t < 0 || t > 3) return BAD;
        if (texts[t] == null) return find(1);
        return faultOf(texts[t]);
    }

    int speech(int t) {
        if (t < 0 || t > 3) return BAD;
        if (texts[t] == null) return find(1);
        if (faultOf(texts[t]) != NONE) return STATE;
        nodes = new ArrayList<>(readNodes);
        words = new ArrayList<>(readWords);
        deeds = new ArrayList<>(readDeeds);
        said = new ArrayList<>();
        ahead = new ArrayList<>();
        Arrays.fill(kept, null);
        return nodes.size();
    }

    List<Integer> wordsFrom(int x) {
        List<Integer> list = new ArrayList<>();
        for (int k = 0; k < words.size(); k++) if (words.get(k).from == x) list.add(k);
        return list;
    }

    boolean isOver(int x) {
        return wordsFrom(x).isEmpty();
    }

    /** All rows of WORDS from a NODE on till it is OVER, in the order of WORDS. */
    List<List<Integer>> walks(int x) {
        List<List<Integer>> all = new ArrayList<>();
        if (isOver(x)) all.add(new ArrayList<>());
        for (int k : wordsFrom(x)) {
            for (List<Integer> rest : walks(words.get(k).to)) {
                List<Integer> walk = new ArrayList<>();
                walk.add(k);
                walk.addAll(rest);
                all.add(walk);
            }
        }
        return all;
    }

    private int lastNode(int x, List<Integer> walk) {
        return walk.isEmpty() ? x : words.get(walk.get(walk.size() - 1)).to;
    }

    private List<List<Integer>> sentences(int x) {
        List<List<Integer>> all = walks(x);
        all.removeIf(walk -> !nodes.get(lastNode(x, walk)).end());
        return all;
    }

    private int yearsOf(List<Integer> walk) {
        return (int) walk.stream().filter(k -> nodes.get(words.get(k).from).kind != 3).count();
    }

    private Set<Integer> meaningsFrom(int x) {
        Set<Integer> set = new LinkedHashSet<>();
        for (List<Integer> s : sentences(x)) set.add(nodes.get(lastNode(x, s)).meaning);
        return set;
    }

    private static int bits(Iterable<Integer> set) {
        int b = 0;
        for (int v : set) b |= 1 << v;
        return b;
    }

    private int nodeTells(int x, int what) {
        return switch (what) {
            case 0 -> nodes.get(x).kind;
            case 1 -> bits(wordsFrom(x));
            case 2 -> sentences(x).size();
            default -> bits(meaningsFrom(x));
        };
    }

    private int wordTells(int k, int what) {
        Word w = words.get(k);
        return what == 0 ? w.from : what == 1 ? w.to : w.sound;
    }

    private int deedTells(int d, int what) {
        Deed e = deeds.get(d);
        return new int[] {e.years, e.cost, e.meaning, e.worth, e.state}[what];
    }

    int node(int x, int what) {
        if (x < 0 || x >= nodes.size() || what < 0 || what > 3) return BAD;
        return tell1(nodeTells(x, what));
    }

    int word(int k, int what) {
        if (k < 0 || k >= words.size() || what < 0 || what > 2) return BAD;
        return tell1(wordTells(k, what));
    }

    int deed(int d, int what) {
        if (d < 0 || d >= deeds.size() || what < 0 || what > 4) return BAD;
        return tell1(deedTells(d, what));
    }

    int mark(int x, int kind) {
        if (x < 0 || x >= nodes.size() || kind < 1 || kind > 5) return BAD;
        Node n = nodes.get(x);
        boolean is = switch (kind) {
            case 1 -> n.kind == 1 || n.kind == 4;
            case 2 -> n.kind == 2 || n.kind == 5;
            default -> n.kind == kind;
        };
        if (!is) return find(3);
        return switch (kind) {
            case 1 -> n.meaning;
            case 2 -> (int) words.stream().filter(w -> w.to == x).count();
            case 3 -> (int) words.stream().filter(w -> w.from == x).map(Word::to).distinct().filter(y -> nodes.get(y).end()).count();
            case 4 -> (int) deeds.stream().filter(d -> d.meaning == n.meaning).count();
            default -> deeds.stream().filter(d -> d.state < 2).mapToInt(d -> d.years).max().orElse(0);
        };
    }

    int prize(int d, int v) {
        if (d < 0 || d >= deeds.size() || v < 0 || v > 9) return BAD;
        int was = deeds.get(d).worth;
        deeds.get(d).worth = v;
        return was;
    }

    // ---- years

    int now() {
        return lastNode(0, said);
    }

    private List<DeedState> states() {
        List<DeedState> list = new ArrayList<>();
        for (Deed d : deeds) list.add(new DeedState(d.state, d.left));
        return list;
    }

    private void restore(List<DeedState> list) {
        for (int d = 0; d < deeds.size(); d++) {
            deeds.get(d).state = list.get(d).state;
            deeds.get(d).left = list.get(d).left;
        }
    }

    private void pass(int x) {
        int kind = nodes.get(x).kind;
        for (Deed d : deeds) {
            if (d.state == 1 && kind == 5) d.state = 3;
            if (d.state == 1 && kind == 0) {
                d.left--;
                if (d.left == 0) d.state = 2;
            }
        }
    }

    private void utter(int k) {
        ahead.add(states());
        said.add(k);
        pass(words.get(k).from);
    }

    int say(int k) {
        if (k < 0 || k >= words.size()) return BAD;
        if (words.get(k).from != now()) return STATE;
        utter(k);
        return words.get(k).to;
    }

    private boolean busy() {
        return deeds.stream().anyMatch(d -> d.state == 1);
    }

    private void start(int d) {
        deeds.get(d).state = 1;
        deeds.get(d).left = deeds.get(d).years;
    }

    int begin(int d) {
        if (d < 0 || d >= deeds.size()) return BAD;
        if (busy() || deeds.get(d).state != 0 || isOver(now())) return STATE;
        start(d);
        return deeds.get(d).years;
    }

    int undo(int n) {
        if (n < 0 || n > said.size()) return BAD;
        int many = said.size() - n;
        if (many > 0) {
            restore(ahead.get(n));
            said = new ArrayList<>(said.subList(0, n));
            ahead = new ArrayList<>(ahead.subList(0, n));
        }
        return many;
    }

    int here() {
        if (nodes.isEmpty()) return STATE;
        asked = yearsOf(said);
        return now();
    }

    private int gain(int x) {
        Node n = nodes.get(x);
        int sum = 0;
        for (Deed d : deeds) {
            if (d.state == 2) {
                sum -= d.cost;
                if (n.kind == 1 && d.meaning == n.meaning) sum += d.worth;
                if (n.kind == 4 && d.meaning == n.meaning) sum += d.worth + d.worth;
            }
        }
        return sum;
    }

    int over() {
        if (nodes.isEmpty()) return STATE;
        asked = isOver(now()) ? gain(now()) : 0;
        return isOver(now()) ? 1 : 0;
    }

    private int toRow(int r, List<Integer> list) {
        rows[r] = list.stream().mapToInt(v -> v).toArray();
        return list.size();
    }

    int told(int r) {
        if (r < 0 || r > 5) return BAD;
        return toRow(r, said);
    }

    int keep(int k) {
        if (k < 0 || k > 2) return BAD;
        if (nodes.isEmpty()) return STATE;
        kept[k] = new Kept(new ArrayList<>(said), new ArrayList<>(ahead), states());
        return said.size();
    }

    int on(int k) {
        if (k < 0 || k > 2) return BAD;
        if (kept[k] == null) return find(1);
        said = new ArrayList<>(kept[k].said);
        ahead = new ArrayList<>(kept[k].ahead);
        restore(kept[k].now);
        return said.size();
    }

    // ---- what can still be meant

    /** An exact fraction, in lowest terms. */
    record Ratio(BigInteger up, BigInteger low) {
        static Ratio of(long up, long low) {
            BigInteger u = BigInteger.valueOf(up);
            BigInteger l = BigInteger.valueOf(low);
            BigInteger g = u.gcd(l);
            return new Ratio(u.divide(g), l.divide(g));
        }

        Ratio plus(Ratio o) {
            BigInteger u = up.multiply(o.low).add(o.up.multiply(low));
            BigInteger l = low.multiply(o.low);
            BigInteger g = u.gcd(l);
            return new Ratio(u.divide(g), l.divide(g));
        }

        Ratio by(long n) {
            BigInteger l = low.multiply(BigInteger.valueOf(n));
            BigInteger g = up.gcd(l);
            return new Ratio(up.divide(g), l.divide(g));
        }

        int compare(Ratio o) {
            return up.multiply(o.low).compareTo(o.up.multiply(low));
        }
    }

    private void tellRatio(Ratio r) {
        upper = r.up;
        lower = r.low;
    }

    int odds(int m) {
        if (m < 0 || m > 5) return BAD;
        if (nodes.isEmpty()) return STATE;
        Ratio sum = Ratio.of(0, 1);
        for (List<Integer> s : sentences(now())) {
            if (nodes.get(lastNode(now(), s)).meaning != m) continue;
            Ratio p = Ratio.of(1, 1);
            for (int k : s) p = p.by(wordsFrom(words.get(k).from).size());
            sum = sum.plus(p);
        }
        tellRatio(sum);
        return 1;
    }

    int years() {
        if (nodes.isEmpty()) return STATE;
        List<List<Integer>> all = sentences(now());
        if (all.isEmpty()) return NONE;
        asked = all.stream().mapToInt(this::yearsOf).max().getAsInt();
        return all.stream().mapToInt(this::yearsOf).min().getAsInt();
    }

    int just(int n) {
        if (n < 0 || n > 8) return BAD;
        if (nodes.isEmpty()) return STATE;
        List<List<Integer>> all = sentences(now());
        all.removeIf(s -> yearsOf(s) != n);
        asked = all.isEmpty() || all.get(0).isEmpty() ? NONE : all.get(0).get(0);
        return all.size();
    }

    private int outcomes(int x) {
        Set<Integer> set = new LinkedHashSet<>();
        for (List<Integer> walk : walks(x)) {
            Node n = nodes.get(lastNode(x, walk));
            set.add(n.end() ? n.meaning : MUTE);
        }
        return set.size();
    }

    int known() {
        if (nodes.isEmpty()) return STATE;
        int most = 0;
        for (List<Integer> walk : walks(now())) {
            int x = now();
            int y = 0;
            for (int k : walk) {
                if (outcomes(x) < 2) break;
                if (nodes.get(x).kind != 3) y++;
                x = words.get(k).to;
            }
            most = Math.max(most, y);
        }
        return most;
    }

    int tell() {
        if (nodes.isEmpty()) return STATE;
        int best = NONE;
        int fewest = 99;
        for (int k : wordsFrom(now())) {
            Set<Integer> with = meaningsFrom(words.get(k).to);
            Set<Integer> without = new LinkedHashSet<>();
            for (int o : wordsFrom(now())) if (o != k) without.addAll(meaningsFrom(words.get(o).to));
            int left = Math.max(with.size(), without.size());
            if (left < fewest) {
                fewest = left;
                best = k;
            }
        }
        if (best != NONE) asked = fewest;
        return best;
    }

    // ---- what to do

    private List<Integer> choices() {
        List<Integer> list = new ArrayList<>();
        if (!busy()) for (int d = 0; d < deeds.size(); d++) if (deeds.get(d).state == 0) list.add(d);
        list.add(NONE);
        return list;
    }

    private int bestDeed;

    private int sure(int x) {
        if (isOver(x)) {
            bestDeed = NONE;
            return gain(x);
        }
        int best = Integer.MIN_VALUE;
        int which = NONE;
        List<DeedState> before = states();
        for (int d : choices()) {
            if (d != NONE) start(d);
            pass(x);
            List<DeedState> after = states();
            int least = Integer.MAX_VALUE;
            for (int k : wordsFrom(x)) {
                restore(after);
                least = Math.min(least, sure(words.get(k).to));
            }
            if (least > best) {
                best = least;
                which = d;
            }
            restore(before);
        }
        bestDeed = which;
        return best;
    }

    private Ratio hoped(int x) {
        if (isOver(x)) {
            bestDeed = NONE;
            return Ratio.of(gain(x), 1);
        }
        Ratio best = null;
        int which = NONE;
        List<DeedState> before = states();
        for (int d : choices()) {
            if (d != NONE) start(d);
            pass(x);
            List<DeedState> after = states();
            Ratio sum = Ratio.of(0, 1);
            for (int k : wordsFrom(x)) {
                restore(after);
                sum = sum.plus(hoped(words.get(k).to));
            }
            sum = sum.by(wordsFrom(x).size());
            if (best == null || sum.compare(best) > 0) {
                best = sum;
                which = d;
            }
            restore(before);
        }
        bestDeed = which;
        return best;
    }

    int worst() {
        if (nodes.isEmpty()) return STATE;
        List<DeedState> before = states();
        int v = sure(now());
        restore(before);
        asked = bestDeed;
        return v;
    }

    int hopes() {
        if (nodes.isEmpty()) return STATE;
        List<DeedState> before = states();
        tellRatio(hoped(now()));
        restore(before);
        asked = bestDeed;
        return 1;
    }

    private int refusal(int r) {
        if (r < 0 || r > 5) return BAD;
        if (nodes.isEmpty()) return STATE;
        if (rows[r] == null) return find(1);
        if (rows[r].length > 8) return find(5);
        return 0;
    }

    private List<Integer> listOf(int r) {
        List<Integer> list = new ArrayList<>();
        for (int v : rows[r]) list.add(v);
        return list;
    }

    int brings(int r) {
        int no = refusal(r);
        if (no != 0) return no;
        if (!walks(now()).contains(listOf(r))) return find(3);
        List<DeedState> before = states();
        int x = now();
        for (int k : rows[r]) {
            List<DeedState> current = states();
            sure(x);
            restore(current);
            if (bestDeed != NONE) start(bestDeed);
            pass(x);
            x = words.get(k).to;
        }
        asked = gain(x);
        restore(before);
        return 1;
    }

    private int foreseen(int x, List<Integer> walk) {
        if (walk.isEmpty()) return gain(x);
        int best = Integer.MIN_VALUE;
        List<DeedState> before = states();
        for (int d : choices()) {
            if (d != NONE) start(d);
            pass(x);
            best = Math.max(best, foreseen(words.get(walk.get(0)).to, walk.subList(1, walk.size())));
            restore(before);
        }
        return best;
    }

    int knows(int r) {
        int no = refusal(r);
        if (no != 0) return no;
        if (!walks(now()).contains(listOf(r))) return find(3);
        return tell1(foreseen(now(), listOf(r)));
    }

    // ---- words heard

    private int soundRefusal(int r) {
        int no = refusal(r);
        if (no != 0) return no;
        for (int v : rows[r]) if (v != NONE && (v < 0 || v > 9)) return find(3);
        return 0;
    }

    private List<List<Integer>> fitting(int[] sounds, int slips) {
        List<List<Integer>> all = sentences(now());
        all.removeIf(s -> {
            if (s.size() != sounds.length) return true;
            int wrong = 0;
            for (int i = 0; i < sounds.length; i++) if (sounds[i] != NONE && words.get(s.get(i)).sound != sounds[i]) wrong++;
            return wrong > slips;
        });
        return all;
    }

    private Set<Integer> meaningsOf(List<List<Integer>> all) {
        Set<Integer> set = new LinkedHashSet<>();
        for (List<Integer> s : all) set.add(nodes.get(lastNode(now(), s)).meaning);
        return set;
    }

    int heard(int r) {
        int no = soundRefusal(r);
        if (no != 0) return no;
        List<List<Integer>> all = fitting(rows[r], 0);
        asked = bits(meaningsOf(all));
        return all.size();
    }

    int slips(int r) {
        int no = soundRefusal(r);
        if (no != 0) return no;
        return fitting(rows[r], 1).size();
    }

    int first(int r, int to) {
        if (to < 0 || to > 5) return BAD;
        int no = soundRefusal(r);
        if (no != 0) return no;
        List<List<Integer>> all = fitting(rows[r], 0);
        return all.isEmpty() ? NONE : toRow(to, all.get(0));
    }

    int least(int r) {
        int no = refusal(r);
        if (no != 0) return no;
        if (!sentences(now()).contains(listOf(r))) return find(3);
        int n = rows[r].length;
        int best = -1;
        for (int places = 0; places < 1 << n; places++) {
            int[] sounds = new int[n];
            for (int i = 0; i < n; i++) sounds[i] = (places >> i & 1) == 1 ? words.get(rows[r][i]).sound : NONE;
            if (meaningsOf(fitting(sounds, 0)).size() == 1 && (best < 0 || Integer.bitCount(places) < Integer.bitCount(best))) best = places;
        }
        asked = best;
        return Integer.bitCount(best);
    }

    // ---- lots

    int lots(int n, int seed) {
        if (n < 1 || n > 8 || seed < 1 || seed > 2147483646) return BAD;
        if (nodes.isEmpty()) return STATE;
        BigInteger lot = BigInteger.valueOf(seed);
        int many = 0;
        while (many < n && !isOver(now())) {
            lot = lot.multiply(BigInteger.valueOf(48271)).mod(BigInteger.valueOf(2147483647));
            List<Integer> from = wordsFrom(now());
            utter(from.get(lot.mod(BigInteger.valueOf(from.size())).intValue()));
            many++;
        }
        return many;
    }

    // ---- what is told

    private int counted(int what) {
        return switch (what) {
            case 0 -> nodes.size();
            case 1 -> words.size();
            case 2 -> deeds.size();
            case 3 -> said.size();
            case 4 -> (int) deeds.stream().filter(d -> d.state == 2).count();
            case 5 -> (int) nodes.stream().filter(Node::end).count();
            case 6 -> (int) Arrays.stream(rows).filter(v -> v != null).count();
            case 7 -> (int) Arrays.stream(texts).filter(v -> v != null).count();
            default -> (int) Arrays.stream(kept).filter(v -> v != null).count();
        };
    }

    int count(int what) {
        return what < 0 || what > 8 ? BAD : counted(what);
    }

    int findings(int f) {
        return f < 1 || f > 5 ? BAD : findings[f];
    }

    long digest() {
        List<Integer> all = new ArrayList<>();
        for (int what = 0; what <= 8; what++) all.add(counted(what));
        for (int x = 0; x < nodes.size(); x++) for (int w = 0; w <= 3; w++) all.add(nodeTells(x, w));
        for (int k = 0; k < words.size(); k++) for (int w = 0; w <= 2; w++) all.add(wordTells(k, w));
        for (int d = 0; d < deeds.size(); d++) for (int w = 0; w <= 4; w++) all.add(deedTells(d, w));
        all.addAll(said);
        for (Kept k : kept) all.add(k == null ? -1 : k.said.size());
        for (int[] row : rows) {
            all.add(row == null ? -1 : row.length);
            if (row != null) for (int v : row) all.add(v);
        }
        for (byte[] text : texts) {
            all.add(text == null ? -1 : text.length);
            if (text != null) for (byte v : text) all.add((int) v);
        }
        long h = 17;
        for (int v : all) h = 31 * h + v;
        return h;
    }
}
