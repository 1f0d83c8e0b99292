import java.util.Arrays;

/**
 * The stone people speak a word a year, the valley digs before the end is known.
 * What each call promises stands in the document, by the call's name.
 */
public final class YearWord {
    public static final int BAD = -1, FULL = -2, FINDING = -3, STATE = -4, SPENT = -6, NONE = -9;

    private static final int NOTHING = 1, BEYOND = 2, UNLIKE = 3, NOUGHT = 4, SIZE = 5;
    private static final int ROWS = 6, ROW_MOST = 40, TEXTS = 4, TEXT_MOST = 80, PLACES = 3;
    private static final int NODES = 9, WORDS = 14, FROM_ONE = 4, DEEDS = 4, MEANINGS = 6, SOUNDS = 10;
    private static final int PRIZE_MOST = 9, BLANK = 32;
    /** Each WORD leads to a greater NODE, so none can be SAID behind the eighth. */
    private static final int LONGEST = NODES - 1;
    private static final int PLAIN = 0, END = 1, COMMA = 2, WHISPER = 3, OATH = 4, LULL = 5;
    private static final int MISSING = -1, FINE = 0;
    private static final long LOT_FACTOR = 48271L, LOT_MODULUS = 2147483647L;

    private final int[][] rows = new int[ROWS][ROW_MOST];
    private final int[] rowSize = new int[ROWS];
    private final byte[][] texts = new byte[TEXTS][TEXT_MOST];
    private final int[] textSize = new int[TEXTS];
    private final Speech speech = new Speech();
    /** What a TEXT is read into to find a FAULT, so that the SPEECH stays as it is. */
    private final Speech draft = new Speech();
    private final Reader reader = new Reader(draft);
    private final Outlook outlook = new Outlook(speech);
    private final Planner planner = new Planner(speech, outlook);
    private final Ear ear = new Ear(speech);
    private final Years years = new Years();
    private final Years[] kept = new Years[PLACES];
    private final int[] findings = new int[SIZE + 1];
    private int asked;
    private long upper;
    private long lower = 1;
    private int finding;

    public YearWord() {
        Arrays.fill(rowSize, MISSING);
        Arrays.fill(textSize, MISSING);
        for (int k = 0; k < PLACES; k++) {
            kept[k] = new Years();
            kept[k].count = MISSING;
        }
    }

    // ---- 1 rows, texts, speeches

    public int row(int r, int n) {
        if (isNoRow(r) || n > ROW_MOST) {
            return BAD;
        }
        if (n < 0) {
            return found(SIZE);
        }
        layOut(r, n);
        return n;
    }

    public int lay(int r, int i, int v) {
        int refusal = placeRefusal(r, i);
        if (refusal != FINE) {
            return refusal;
        }
        int before = rows[r][i];
        rows[r][i] = v;
        return tells(before);
    }

    public int at(int r, int i) {
        int refusal = placeRefusal(r, i);
        return refusal != FINE ? refusal : tells(rows[r][i]);
    }

    public int tear(int r) {
        int refusal = rowRefusal(r);
        if (refusal != FINE) {
            return refusal;
        }
        rowSize[r] = MISSING;
        return 1;
    }

    public int copy(int r, int i, int to, int j, int n) {
        if (isNoRow(r) || isNoRow(to)) {
            return BAD;
        }
        if (n < 0) {
            return found(SIZE);
        }
        if (rowSize[r] < 0 || rowSize[to] < 0) {
            return found(NOTHING);
        }
        if (isBeyond(rowSize[r], i, n) || isBeyond(rowSize[to], j, n)) {
            return found(BEYOND);
        }
        System.arraycopy(rows[r], i, rows[to], j, n);
        return 1;
    }

    public int mean(int r) {
        int refusal = rowRefusal(r);
        if (refusal != FINE) {
            return refusal;
        }
        int size = rowSize[r];
        if (size == 0) {
            return found(NOUGHT);
        }
        long sum = 0;
        for (int i = 0; i < size; i++) {
            sum += rows[r][i];
        }
        return tells((int) (sum / size));
    }

    public int text(int t, int n) {
        if (isNoText(t) || n > TEXT_MOST) {
            return BAD;
        }
        if (n < 0) {
            return found(SIZE);
        }
        Arrays.fill(texts[t], (byte) BLANK);
        textSize[t] = n;
        return n;
    }

    public int put(int t, int i, int v) {
        int refusal = textRefusal(t);
        if (refusal != FINE) {
            return refusal;
        }
        if (i < 0 || i >= textSize[t]) {
            return found(BEYOND);
        }
        int before = texts[t][i];
        texts[t][i] = (byte) v;
        return before + 1000;
    }

    public int fault(int t) {
        int refusal = textRefusal(t);
        return refusal != FINE ? refusal : reader.faultOf(texts[t], textSize[t], draft);
    }

    public int speech(int t) {
        int refusal = textRefusal(t);
        if (refusal != FINE) {
            return refusal;
        }
        if (reader.faultOf(texts[t], textSize[t], draft) != NONE) {
            return STATE;
        }
        reader.faultOf(texts[t], textSize[t], speech);
        outlook.study();
        planner.forget();
        years.restart();
        for (int k = 0; k < PLACES; k++) {
            kept[k].count = MISSING;
        }
        return speech.nodes;
    }

    public int node(int x, int what) {
        return isNoNode(x) || what < 0 || what > 3 ? BAD : tells(nodeTells(x, what));
    }

    public int word(int k, int what) {
        return isNoWord(k) || what < 0 || what > 2 ? BAD : tells(wordTells(k, what));
    }

    public int deed(int d, int what) {
        return isNoDeed(d) || what < 0 || what > 4 ? BAD : tells(deedTells(d, what));
    }

    public int mark(int x, int kind) {
        if (isNoNode(x) || kind < END || kind > LULL) {
            return BAD;
        }
        if (!speech.isOfKind(x, kind)) {
            return found(UNLIKE);
        }
        switch (kind) {
            case END:
                return speech.meaning[x];
            case COMMA:
                return speech.wordsTo(x);
            case WHISPER:
                return speech.endsNextTo(x);
            case OATH:
                return speech.deedsOf(speech.meaning[x]);
            default:
                return longestOpenDeed();
        }
    }

    public int prize(int d, int v) {
        if (isNoDeed(d) || v < 0 || v > PRIZE_MOST) {
            return BAD;
        }
        int before = speech.worth[d];
        speech.worth[d] = v;
        planner.forget();
        return before;
    }

    // ---- 2 years

    public int say(int k) {
        if (isNoWord(k)) {
            return BAD;
        }
        if (speech.from[k] != nodeNow()) {
            return STATE;
        }
        years.goOn(k, speech);
        return speech.to[k];
    }

    public int begin(int d) {
        if (isNoDeed(d)) {
            return BAD;
        }
        if (Deeds.busyOne(years.deeds) >= 0 || Deeds.codeOf(years.deeds, d) != Deeds.OPEN
                || speech.isOver(nodeNow())) {
            return STATE;
        }
        years.deeds = Deeds.with(years.deeds, d, speech.years[d]);
        return speech.years[d];
    }

    public int undo(int n) {
        return n < 0 || n > years.count ? BAD : years.cutAt(n);
    }

    public int here() {
        if (isUnspoken()) {
            return STATE;
        }
        asked = years.gone(speech);
        return nodeNow();
    }

    public int over() {
        if (isUnspoken()) {
            return STATE;
        }
        int x = nodeNow();
        boolean ended = speech.isOver(x);
        asked = ended ? speech.gain(x, years.deeds) : 0;
        return ended ? 1 : 0;
    }

    public int told(int r) {
        if (isNoRow(r)) {
            return BAD;
        }
        return fill(r, years.said, years.count);
    }

    public int keep(int k) {
        if (isNoPlace(k)) {
            return BAD;
        }
        if (isUnspoken()) {
            return STATE;
        }
        kept[k].takeFrom(years);
        return years.count;
    }

    public int on(int k) {
        if (isNoPlace(k)) {
            return BAD;
        }
        if (kept[k].count < 0) {
            return found(NOTHING);
        }
        years.takeFrom(kept[k]);
        return years.count;
    }

    // ---- 3 what can still be meant

    public int odds(int m) {
        if (m < 0 || m >= MEANINGS) {
            return BAD;
        }
        if (isUnspoken()) {
            return STATE;
        }
        int x = nodeNow();
        tellsRatio(outlook.chancesOf(m, x), outlook.lots[x]);
        return 1;
    }

    public int years() {
        if (isUnspoken()) {
            return STATE;
        }
        int x = nodeNow();
        if (outlook.sentences[x] == 0) {
            return NONE;
        }
        asked = outlook.most[x];
        return outlook.fewest[x];
    }

    public int just(int n) {
        if (n < 0 || n > LONGEST) {
            return BAD;
        }
        if (isUnspoken()) {
            return STATE;
        }
        int x = nodeNow();
        asked = outlook.firstWordFor(n, x);
        return outlook.ofYears[x][n];
    }

    public int known() {
        return isUnspoken() ? STATE : outlook.settled[nodeNow()];
    }

    public int tell() {
        if (isUnspoken()) {
            return STATE;
        }
        int x = nodeNow();
        int best = NONE;
        int fewest = MEANINGS + 1;
        for (int j = 0; j < speech.degree[x]; j++) {
            int left = outlook.leftAtWorst(x, j);
            if (left < fewest) {
                fewest = left;
                best = speech.wordAt(x, j);
            }
        }
        if (best != NONE) {
            asked = fewest;
        }
        return best;
    }

    // ---- 4 what to do

    public int worst() {
        if (isUnspoken()) {
            return STATE;
        }
        planner.ready(Planner.SURE);
        asked = planner.choice(nodeNow(), years.deeds);
        return planner.most(nodeNow(), years.deeds);
    }

    public int hopes() {
        if (isUnspoken()) {
            return STATE;
        }
        int x = nodeNow();
        planner.ready(Planner.MEAN);
        tellsRatio(planner.most(x, years.deeds), outlook.lots[x]);
        return tells(planner.choice(x, years.deeds));
    }

    public int brings(int r) {
        int refusal = sentenceRefusal(r);
        if (refusal != FINE) {
            return refusal;
        }
        if (!isToAnOver(r)) {
            return found(UNLIKE);
        }
        planner.ready(Planner.SURE);
        int x = nodeNow();
        int deeds = years.deeds;
        for (int i = 0; i < rowSize[r]; i++) {
            int d = planner.choice(x, deeds);
            if (d >= 0) {
                deeds = Deeds.with(deeds, d, speech.years[d]);
            }
            deeds = Deeds.afterWord(deeds, speech.kind[x]);
            x = speech.to[rows[r][i]];
        }
        return tells(speech.gain(x, deeds));
    }

    public int knows(int r) {
        int refusal = sentenceRefusal(r);
        if (refusal != FINE) {
            return refusal;
        }
        if (!isToAnOver(r)) {
            return found(UNLIKE);
        }
        planner.forget();
        planner.ready(Planner.KNOWN);
        for (int i = 0; i < rowSize[r]; i++) {
            planner.foresee(rows[r][i]);
        }
        return tells(planner.most(nodeNow(), years.deeds));
    }

    // ---- 5 words heard

    public int heard(int r) {
        int refusal = soundsRefusal(r);
        if (refusal != FINE) {
            return refusal;
        }
        ear.hear(rows[r], rowSize[r], 0);
        ear.listenFrom(nodeNow());
        asked = ear.meanings;
        return ear.count;
    }

    public int slips(int r) {
        int refusal = soundsRefusal(r);
        if (refusal != FINE) {
            return refusal;
        }
        ear.hear(rows[r], rowSize[r], 1);
        ear.listenFrom(nodeNow());
        return ear.count;
    }

    public int first(int r, int to) {
        if (isNoRow(to)) {
            return BAD;
        }
        int refusal = soundsRefusal(r);
        if (refusal != FINE) {
            return refusal;
        }
        ear.hear(rows[r], rowSize[r], 0);
        ear.listenFrom(nodeNow());
        return ear.count == 0 ? NONE : fill(to, ear.earliest, ear.size);
    }

    public int least(int r) {
        int refusal = sentenceRefusal(r);
        if (refusal != FINE) {
            return refusal;
        }
        int end = nodeBehind(r);
        if (end < 0 || !speech.isEnd(end)) {
            return found(UNLIKE);
        }
        ear.hearWords(rows[r], rowSize[r], speech.meaning[end]);
        ear.listenFrom(nodeNow());
        int places = ear.fewestPlaces();
        asked = places;
        return Integer.bitCount(places);
    }

    // ---- 6 lots

    public int lots(int n, int seed) {
        if (n < 1 || n > LONGEST || seed < 1 || seed >= LOT_MODULUS) {
            return BAD;
        }
        if (isUnspoken()) {
            return STATE;
        }
        long lot = seed;
        int saidNow = 0;
        for (int i = 0; i < n; i++) {
            int x = nodeNow();
            int degree = speech.degree[x];
            if (degree == 0) {
                break;
            }
            lot = LOT_FACTOR * lot % LOT_MODULUS;
            years.goOn(speech.wordAt(x, (int) (lot % degree)), speech);
            saidNow++;
        }
        return saidNow;
    }

    // ---- 7 what is told

    public int asked() {
        return asked;
    }

    public long upper() {
        return upper;
    }

    public long lower() {
        return lower;
    }

    public int count(int what) {
        return what < 0 || what > 8 ? BAD : counted(what);
    }

    public int finding() {
        return finding;
    }

    public int findings(int f) {
        return f < NOTHING || f > SIZE ? BAD : findings[f];
    }

    public long digest() {
        long h = 17;
        for (int what = 0; what <= 8; what++) {
            h = mixed(h, counted(what));
        }
        h = withSpeech(h);
        for (int i = 0; i < years.count; i++) {
            h = mixed(h, years.said[i]);
        }
        for (int k = 0; k < PLACES; k++) {
            h = mixed(h, kept[k].count);
        }
        return withRowsAndTexts(h);
    }

    // ---- how a call is refused, and what it leaves to be told

    private int found(int which) {
        finding = which;
        findings[which]++;
        return FINDING;
    }

    private int tells(int v) {
        asked = v;
        return 1;
    }

    private void tellsRatio(long up, long low) {
        long divisor = commonDivisor(Math.abs(up), low);
        if (divisor > 0) {
            upper = up / divisor;
            lower = low / divisor;
        }
    }

    private static long commonDivisor(long a, long b) {
        long large = a;
        long small = b;
        // Euclid's steps on longs are fewer than a hundred.
        for (int i = 0; i < 100 && small != 0; i++) {
            long rest = large % small;
            large = small;
            small = rest;
        }
        return large;
    }

    private boolean isUnspoken() {
        return speech.nodes == 0;
    }

    private static boolean isNoRow(int r) {
        return r < 0 || r >= ROWS;
    }

    private static boolean isNoText(int t) {
        return t < 0 || t >= TEXTS;
    }

    private static boolean isNoPlace(int k) {
        return k < 0 || k >= PLACES;
    }

    private boolean isNoNode(int x) {
        return x < 0 || x >= speech.nodes;
    }

    private boolean isNoWord(int k) {
        return k < 0 || k >= speech.words;
    }

    private boolean isNoDeed(int d) {
        return d < 0 || d >= speech.deeds;
    }

    private static boolean isBeyond(int size, int i, int n) {
        return i < 0 || i > size || n > size - i;
    }

    private int rowRefusal(int r) {
        if (isNoRow(r)) {
            return BAD;
        }
        return rowSize[r] < 0 ? found(NOTHING) : FINE;
    }

    private int placeRefusal(int r, int i) {
        int refusal = rowRefusal(r);
        if (refusal != FINE) {
            return refusal;
        }
        return i < 0 || i >= rowSize[r] ? found(BEYOND) : FINE;
    }

    private int textRefusal(int t) {
        if (isNoText(t)) {
            return BAD;
        }
        return textSize[t] < 0 ? found(NOTHING) : FINE;
    }

    private int sentenceRefusal(int r) {
        if (isNoRow(r)) {
            return BAD;
        }
        if (isUnspoken()) {
            return STATE;
        }
        if (rowSize[r] < 0) {
            return found(NOTHING);
        }
        return rowSize[r] > LONGEST ? found(SIZE) : FINE;
    }

    private int soundsRefusal(int r) {
        int refusal = sentenceRefusal(r);
        if (refusal != FINE) {
            return refusal;
        }
        for (int i = 0; i < rowSize[r]; i++) {
            int v = rows[r][i];
            if (v != NONE && (v < 0 || v >= SOUNDS)) {
                return found(UNLIKE);
            }
        }
        return FINE;
    }

    // ---- rows and the years so far

    private void layOut(int r, int n) {
        Arrays.fill(rows[r], 0);
        rowSize[r] = n;
    }

    private int fill(int r, int[] with, int n) {
        layOut(r, n);
        System.arraycopy(with, 0, rows[r], 0, n);
        return n;
    }

    private int nodeNow() {
        return years.count == 0 ? 0 : speech.to[years.said[years.count - 1]];
    }

    /** The NODE to which a ROW of WORDS leads from here; MISSING where it can't be SAID so. */
    private int nodeBehind(int r) {
        int x = nodeNow();
        for (int i = 0; i < rowSize[r]; i++) {
            int k = rows[r][i];
            if (isNoWord(k) || speech.from[k] != x) {
                return MISSING;
            }
            x = speech.to[k];
        }
        return x;
    }

    private boolean isToAnOver(int r) {
        int x = nodeBehind(r);
        return x >= 0 && speech.isOver(x);
    }

    private int longestOpenDeed() {
        int most = 0;
        for (int d = 0; d < speech.deeds; d++) {
            if (Deeds.state(years.deeds, d) < Deeds.STATE_DONE) {
                most = Math.max(most, speech.years[d]);
            }
        }
        return most;
    }

    // ---- what count(), node(), word(), deed() and digest() share

    private int counted(int what) {
        switch (what) {
            case 0:
                return speech.nodes;
            case 1:
                return speech.words;
            case 2:
                return speech.deeds;
            case 3:
                return years.count;
            case 4:
                return Deeds.done(years.deeds);
            case 5:
                return speech.ends();
            case 6:
                return there(rowSize);
            case 7:
                return there(textSize);
            default:
                return keptPlaces();
        }
    }

    private static int there(int[] sizes) {
        int n = 0;
        for (int size : sizes) {
            n += size >= 0 ? 1 : 0;
        }
        return n;
    }

    private int keptPlaces() {
        int n = 0;
        for (int k = 0; k < PLACES; k++) {
            n += kept[k].count >= 0 ? 1 : 0;
        }
        return n;
    }

    private int nodeTells(int x, int what) {
        switch (what) {
            case 0:
                return speech.kind[x];
            case 1:
                return speech.wordBits(x);
            case 2:
                return outlook.sentences[x];
            default:
                return outlook.meanings[x];
        }
    }

    private int wordTells(int k, int what) {
        switch (what) {
            case 0:
                return speech.from[k];
            case 1:
                return speech.to[k];
            default:
                return speech.sound[k];
        }
    }

    private int deedTells(int d, int what) {
        switch (what) {
            case 0:
                return speech.years[d];
            case 1:
                return speech.cost[d];
            case 2:
                return speech.aim[d];
            case 3:
                return speech.worth[d];
            default:
                return Deeds.state(years.deeds, d);
        }
    }

    private static long mixed(long h, long v) {
        return 31 * h + v;
    }

    private long withSpeech(long start) {
        long h = start;
        for (int x = 0; x < speech.nodes; x++) {
            for (int what = 0; what <= 3; what++) {
                h = mixed(h, nodeTells(x, what));
            }
        }
        for (int k = 0; k < speech.words; k++) {
            for (int what = 0; what <= 2; what++) {
                h = mixed(h, wordTells(k, what));
            }
        }
        for (int d = 0; d < speech.deeds; d++) {
            for (int what = 0; what <= 4; what++) {
                h = mixed(h, deedTells(d, what));
            }
        }
        return h;
    }

    private long withRowsAndTexts(long start) {
        long h = start;
        for (int r = 0; r < ROWS; r++) {
            h = mixed(h, rowSize[r]);
            for (int i = 0; i < rowSize[r]; i++) {
                h = mixed(h, rows[r][i]);
            }
        }
        for (int t = 0; t < TEXTS; t++) {
            h = mixed(h, textSize[t]);
            for (int i = 0; i < textSize[t]; i++) {
                h = mixed(h, texts[t][i]);
            }
        }
        return h;
    }

    /** NODES, WORDS, DEEDS as a TEXT has them. */
    private static final class Speech {
        int nodes;
        int words;
        int deeds;
        final int[] kind = new int[NODES];
        final int[] meaning = new int[NODES];
        final int[] degree = new int[NODES];
        final int[] leaving = new int[NODES * FROM_ONE];
        final int[] from = new int[WORDS];
        final int[] to = new int[WORDS];
        final int[] sound = new int[WORDS];
        final int[] years = new int[DEEDS];
        final int[] cost = new int[DEEDS];
        final int[] aim = new int[DEEDS];
        final int[] worth = new int[DEEDS];

        void clear() {
            nodes = 0;
            words = 0;
            deeds = 0;
        }

        void addNode(int itsKind, int itsMeaning) {
            if (nodes < NODES) {
                kind[nodes] = itsKind;
                meaning[nodes] = itsMeaning;
                degree[nodes] = 0;
                nodes++;
            }
        }

        void addWord(int source, int target, int itsSound) {
            if (words < WORDS && degree[source] < FROM_ONE) {
                from[words] = source;
                to[words] = target;
                sound[words] = itsSound;
                leaving[source * FROM_ONE + degree[source]] = words;
                degree[source]++;
                words++;
            }
        }

        void addDeed(int itsYears, int itsCost, int itsAim, int itsWorth) {
            if (deeds < DEEDS) {
                years[deeds] = itsYears;
                cost[deeds] = itsCost;
                aim[deeds] = itsAim;
                worth[deeds] = itsWorth;
                deeds++;
            }
        }

        /** The j-th WORD from a NODE, the least first. */
        int wordAt(int x, int j) {
            return leaving[x * FROM_ONE + j];
        }

        boolean isEnd(int x) {
            return kind[x] == END || kind[x] == OATH;
        }

        boolean isOver(int x) {
            return degree[x] == 0;
        }

        boolean isOfKind(int x, int which) {
            return kind[x] == which || which == END && kind[x] == OATH || which == COMMA && kind[x] == LULL;
        }

        boolean hasSound(int x, int which) {
            for (int j = 0; j < degree[x]; j++) {
                if (sound[wordAt(x, j)] == which) {
                    return true;
                }
            }
            return false;
        }

        /** How many YEARS a WORD from a NODE takes. */
        int yearsOfWord(int x) {
            return kind[x] == WHISPER ? 0 : 1;
        }

        int wordBits(int x) {
            int bits = 0;
            for (int j = 0; j < degree[x]; j++) {
                bits |= 1 << wordAt(x, j);
            }
            return bits;
        }

        int wordsTo(int x) {
            int n = 0;
            for (int k = 0; k < words; k++) {
                n += to[k] == x ? 1 : 0;
            }
            return n;
        }

        int endsNextTo(int x) {
            int bits = 0;
            for (int j = 0; j < degree[x]; j++) {
                int next = to[wordAt(x, j)];
                bits |= isEnd(next) ? 1 << next : 0;
            }
            return Integer.bitCount(bits);
        }

        int deedsOf(int m) {
            int n = 0;
            for (int d = 0; d < deeds; d++) {
                n += aim[d] == m ? 1 : 0;
            }
            return n;
        }

        int ends() {
            int n = 0;
            for (int x = 0; x < nodes; x++) {
                n += isEnd(x) ? 1 : 0;
            }
            return n;
        }

        /** The GAIN where it is OVER; DEEDS that are not DONE neither cost nor bring. */
        int gain(int x, int packed) {
            int sum = 0;
            for (int d = 0; d < deeds; d++) {
                if (Deeds.codeOf(packed, d) == Deeds.DONE) {
                    sum += worthAt(x, d) - cost[d];
                }
            }
            return sum;
        }

        /** A NODE that is no END has no MEANING at which a DEED could aim. */
        private int worthAt(int x, int d) {
            if (aim[d] != meaning[x]) {
                return 0;
            }
            return kind[x] == OATH ? 2 * worth[d] : worth[d];
        }
    }

    /** Reads a TEXT into a SPEECH as far as it goes on as it should. */
    private static final class Reader {
        private byte[] text = new byte[0];
        private int size;
        private int place;
        private Speech into;

        Reader(Speech draft) {
            into = draft;
        }

        int faultOf(byte[] signs, int n, Speech speech) {
            text = signs;
            size = Math.min(n, signs.length);
            place = 0;
            into = speech;
            into.clear();
            for (int items = 0; items <= size; items++) {
                skipBlanks();
                if (place >= size) {
                    break;
                }
                if (!readItem(text[place])) {
                    return place;
                }
            }
            return into.nodes < 2 ? size : NONE;
        }

        private void skipBlanks() {
            while (place < size && text[place] == BLANK) {
                place++;
            }
        }

        /** Where an item can't be read, the place is left at what is wrong. */
        private boolean readItem(int letter) {
            switch (letter) {
                case 'x':
                    return readWord();
                case 'd':
                    return readDeed();
                default:
                    return readNode(kindOf(letter));
            }
        }

        private static int kindOf(int letter) {
            switch (letter) {
                case 'n':
                    return PLAIN;
                case 'e':
                    return END;
                case 'c':
                    return COMMA;
                case 'w':
                    return WHISPER;
                case 'o':
                    return OATH;
                case 'l':
                    return LULL;
                default:
                    return MISSING;
            }
        }

        private boolean readNode(int kind) {
            if (kind == MISSING || into.nodes == NODES || into.words > 0 || into.deeds > 0) {
                return false;
            }
            place++;
            int meaning = MISSING;
            if (kind == END || kind == OATH) {
                meaning = figure(0, MEANINGS - 1);
                if (meaning < 0) {
                    return false;
                }
            }
            into.addNode(kind, meaning);
            return true;
        }

        private boolean readWord() {
            if (into.nodes < 2 || into.words == WORDS || into.deeds > 0) {
                return false;
            }
            place++;
            int from = figure(0, into.nodes - 1);
            if (from < 0) {
                return false;
            }
            if (into.isEnd(from) || into.degree[from] == FROM_ONE) {
                return stepBack();
            }
            int to = figure(from + 1, into.nodes - 1);
            int sound = to < 0 ? MISSING : figure(0, SOUNDS - 1);
            if (sound < 0) {
                return false;
            }
            if (into.hasSound(from, sound)) {
                return stepBack();
            }
            into.addWord(from, to, sound);
            return true;
        }

        private boolean readDeed() {
            if (into.nodes < 2 || into.deeds == DEEDS) {
                return false;
            }
            place++;
            int years = figure(1, 5);
            int cost = years < 0 ? MISSING : figure(0, 9);
            int aim = cost < 0 ? MISSING : figure(0, MEANINGS - 1);
            int worth = aim < 0 ? MISSING : figure(0, PRIZE_MOST);
            if (worth < 0) {
                return false;
            }
            into.addDeed(years, cost, aim, worth);
            return true;
        }

        /** A figure within bounds is passed; at anything else the place stays. */
        private int figure(int least, int most) {
            if (place >= size) {
                return MISSING;
            }
            int v = text[place] - '0';
            if (v < least || v > most) {
                return MISSING;
            }
            place++;
            return v;
        }

        private boolean stepBack() {
            place--;
            return false;
        }
    }

    /** How the DEEDS are, all in one int: three bits each, so that they are kept and undone at once. */
    private static final class Deeds {
        /** Codes 1 to 5 are a DEED that is BEGUN, by YEARS that are left. */
        static final int OPEN = 0, DONE = 6, LOST = 7;
        static final int STATE_DONE = 2;
        static final int SETTLED = 81, OTHERS = 27, MOST_LEFT = 5;
        static final int INDEXES = SETTLED + DEEDS * MOST_LEFT * OTHERS;

        static int codeOf(int packed, int d) {
            return packed >> 3 * d & 7;
        }

        static int with(int packed, int d, int code) {
            return packed & ~(7 << 3 * d) | code << 3 * d;
        }

        static boolean isBusy(int code) {
            return code > OPEN && code < DONE;
        }

        static int state(int packed, int d) {
            int code = codeOf(packed, d);
            if (isBusy(code)) {
                return 1;
            }
            return code == OPEN ? 0 : code - DONE + STATE_DONE;
        }

        static int busyOne(int packed) {
            for (int d = 0; d < DEEDS; d++) {
                if (isBusy(codeOf(packed, d))) {
                    return d;
                }
            }
            return MISSING;
        }

        static int done(int packed) {
            int n = 0;
            for (int d = 0; d < DEEDS; d++) {
                n += codeOf(packed, d) == DONE ? 1 : 0;
            }
            return n;
        }

        /** How they are once a WORD was SAID from a NODE of a KIND. */
        static int afterWord(int packed, int kind) {
            int d = busyOne(packed);
            if (d < 0 || kind == WHISPER || kind == COMMA) {
                return packed;
            }
            if (kind == LULL) {
                return with(packed, d, LOST);
            }
            int left = codeOf(packed, d) - 1;
            return with(packed, d, left == 0 ? DONE : left);
        }

        /** One number for each way they can be: one at most is busy, so 621 are enough. */
        static int index(int packed) {
            int digits = 0;
            int busy = MISSING;
            int left = 0;
            for (int d = 0; d < DEEDS; d++) {
                int code = codeOf(packed, d);
                if (isBusy(code)) {
                    busy = d;
                    left = code;
                } else {
                    digits = digits * 3 + (code == OPEN ? 0 : code - DONE + 1);
                }
            }
            return busy < 0 ? digits : SETTLED + (busy * MOST_LEFT + left - 1) * OTHERS + digits;
        }
    }

    /** WORDS SAID and how the DEEDS are, with how they were ahead of each WORD. */
    private static final class Years {
        final int[] said = new int[LONGEST];
        final int[] deedsAhead = new int[LONGEST];
        int count;
        int deeds;

        void restart() {
            count = 0;
            deeds = 0;
        }

        void takeFrom(Years other) {
            System.arraycopy(other.said, 0, said, 0, LONGEST);
            System.arraycopy(other.deedsAhead, 0, deedsAhead, 0, LONGEST);
            count = other.count;
            deeds = other.deeds;
        }

        void goOn(int k, Speech speech) {
            if (count < LONGEST) {
                said[count] = k;
                deedsAhead[count] = deeds;
                deeds = Deeds.afterWord(deeds, speech.kind[speech.from[k]]);
                count++;
            }
        }

        int cutAt(int n) {
            int undone = count - n;
            if (undone > 0) {
                deeds = deedsAhead[n];
                count = n;
            }
            return undone;
        }

        int gone(Speech speech) {
            int sum = 0;
            for (int i = 0; i < count; i++) {
                sum += speech.yearsOfWord(speech.from[said[i]]);
            }
            return sum;
        }
    }

    /** What can come from each NODE on; found from the last NODE to the first, as WORDS lead to greater ones. */
    private static final class Outlook {
        static final int MUTE_BIT = 1 << MEANINGS;

        final int[] sentences = new int[NODES];
        final int[] meanings = new int[NODES];
        /** MEANINGS, and that it ends MUTE as one more. */
        final int[] outcomes = new int[NODES];
        final int[] fewest = new int[NODES];
        final int[] most = new int[NODES];
        final int[] settled = new int[NODES];
        final int[][] ofYears = new int[NODES][LONGEST + 1];
        /** The degrees from a NODE on multiplied: a lower number that all chances from there fit. */
        final int[] lots = new int[NODES + 1];
        private final int[] chances = new int[NODES];
        private final Speech speech;

        Outlook(Speech spoken) {
            speech = spoken;
        }

        void study() {
            Arrays.fill(lots, 1);
            for (int x = speech.nodes - 1; x >= 0; x--) {
                Arrays.fill(ofYears[x], 0);
                settled[x] = 0;
                lots[x] = lots[x + 1];
                if (speech.isOver(x)) {
                    close(x);
                } else {
                    lots[x] *= speech.degree[x];
                    gather(x);
                    settle(x);
                }
            }
        }

        private void close(int x) {
            boolean end = speech.isEnd(x);
            sentences[x] = end ? 1 : 0;
            meanings[x] = end ? 1 << speech.meaning[x] : 0;
            outcomes[x] = end ? meanings[x] : MUTE_BIT;
            ofYears[x][0] = sentences[x];
            fewest[x] = 0;
            most[x] = 0;
        }

        private void gather(int x) {
            int took = speech.yearsOfWord(x);
            sentences[x] = 0;
            meanings[x] = 0;
            outcomes[x] = 0;
            fewest[x] = NODES;
            most[x] = 0;
            for (int j = 0; j < speech.degree[x]; j++) {
                int next = speech.to[speech.wordAt(x, j)];
                sentences[x] += sentences[next];
                meanings[x] |= meanings[next];
                outcomes[x] |= outcomes[next];
                for (int n = took; n <= LONGEST; n++) {
                    ofYears[x][n] += ofYears[next][n - took];
                }
                if (sentences[next] > 0) {
                    fewest[x] = Math.min(fewest[x], fewest[next] + took);
                    most[x] = Math.max(most[x], most[next] + took);
                }
            }
        }

        private void settle(int x) {
            if (Integer.bitCount(outcomes[x]) < 2) {
                return;
            }
            for (int j = 0; j < speech.degree[x]; j++) {
                int next = speech.to[speech.wordAt(x, j)];
                settled[x] = Math.max(settled[x], settled[next] + speech.yearsOfWord(x));
            }
        }

        /** By how much what a next NODE has weighs more, told by this one's lots. */
        int weight(int x, int next) {
            int below = lots[next];
            return below == 0 ? 0 : lots[x + 1] / below;
        }

        /** How many of a NODE's lots come to a MEANING. */
        int chancesOf(int m, int start) {
            for (int x = speech.nodes - 1; x >= start; x--) {
                chances[x] = meanings[x] == 1 << m && speech.isEnd(x) ? lots[x] : 0;
                for (int j = 0; j < speech.degree[x]; j++) {
                    int next = speech.to[speech.wordAt(x, j)];
                    chances[x] += chances[next] * weight(x, next);
                }
            }
            return chances[start];
        }

        int firstWordFor(int n, int x) {
            int rest = n - speech.yearsOfWord(x);
            if (rest < 0) {
                return NONE;
            }
            for (int j = 0; j < speech.degree[x]; j++) {
                int k = speech.wordAt(x, j);
                if (ofYears[speech.to[k]][rest] > 0) {
                    return k;
                }
            }
            return NONE;
        }

        /** How many MEANINGS are left at worst, if one is told whether the j-th WORD from a NODE is SAID. */
        int leftAtWorst(int x, int j) {
            int ifSaid = meanings[speech.to[speech.wordAt(x, j)]];
            int ifNot = 0;
            for (int other = 0; other < speech.degree[x]; other++) {
                if (other != j) {
                    ifNot |= meanings[speech.to[speech.wordAt(x, other)]];
                }
            }
            return Math.max(Integer.bitCount(ifSaid), Integer.bitCount(ifNot));
        }
    }

    /** The best PLAN from a NODE on: by what is sure, in the mean, or for one SENTENCE known ahead. */
    private static final class Planner {
        static final int SURE = 0, MEAN = 1, KNOWN = 2;
        private static final int UNREADY = -1;
        /** Four DEEDS bring 72 at most and lots are 162 at most, so no value comes near these. */
        private static final int UNKNOWN = -1000000, UNBOUNDED = 1000000;

        private final int[] values = new int[NODES * Deeds.INDEXES];
        private final int[] foreseen = new int[NODES];
        private final Speech speech;
        private final Outlook outlook;
        private int aim = UNREADY;

        Planner(Speech spoken, Outlook seen) {
            speech = spoken;
            outlook = seen;
        }

        /** Values stay good from call to call, till the SPEECH, a WORTH or the aim is another. */
        void forget() {
            aim = UNREADY;
        }

        void ready(int wanted) {
            if (aim != wanted) {
                Arrays.fill(values, UNKNOWN);
                aim = wanted;
            }
        }

        void foresee(int k) {
            foreseen[speech.from[k]] = speech.to[k];
        }

        /** The most GAIN; in the mean times the NODE's lots, so that it is whole. */
        int most(int x, int deeds) {
            return value(x, deeds, 0);
        }

        private int value(int x, int deeds, int depth) {
            if (speech.isOver(x) || depth > LONGEST) {
                return speech.gain(x, deeds) * (aim == MEAN ? outlook.lots[x] : 1);
            }
            int place = x * Deeds.INDEXES + Deeds.index(deeds);
            if (values[place] != UNKNOWN) {
                return values[place];
            }
            int best = valueOnceSaid(x, deeds, depth);
            for (int d = 0; d < speech.deeds; d++) {
                if (canBegin(deeds, d)) {
                    best = Math.max(best, valueOnceSaid(x, begun(deeds, d), depth));
                }
            }
            values[place] = best;
            return best;
        }

        /** The DEED to BEGIN at a NODE, the first of the best ones; NONE, if none is as good as waiting. */
        int choice(int x, int deeds) {
            if (speech.isOver(x)) {
                return NONE;
            }
            int best = value(x, deeds, 0);
            for (int d = 0; d < speech.deeds; d++) {
                if (canBegin(deeds, d) && valueOnceSaid(x, begun(deeds, d), 0) == best) {
                    return d;
                }
            }
            return NONE;
        }

        private boolean canBegin(int deeds, int d) {
            return Deeds.codeOf(deeds, d) == Deeds.OPEN && Deeds.busyOne(deeds) < 0;
        }

        private int begun(int deeds, int d) {
            return Deeds.with(deeds, d, speech.years[d]);
        }

        private int valueOnceSaid(int x, int deeds, int depth) {
            int after = Deeds.afterWord(deeds, speech.kind[x]);
            if (aim == KNOWN) {
                return value(foreseen[x], after, depth + 1);
            }
            return aim == MEAN ? meanBehind(x, after, depth) : leastBehind(x, after, depth);
        }

        private int leastBehind(int x, int deeds, int depth) {
            int least = UNBOUNDED;
            for (int j = 0; j < speech.degree[x]; j++) {
                least = Math.min(least, value(speech.to[speech.wordAt(x, j)], deeds, depth + 1));
            }
            return least;
        }

        private int meanBehind(int x, int deeds, int depth) {
            int sum = 0;
            for (int j = 0; j < speech.degree[x]; j++) {
                int next = speech.to[speech.wordAt(x, j)];
                sum += value(next, deeds, depth + 1) * outlook.weight(x, next);
            }
            return sum;
        }
    }

    /** Goes through SENTENCES of so many WORDS that fit what was heard. */
    private static final class Ear {
        /** Degrees sum up to 14 at most, so there are 162 SENTENCES at most. */
        private static final int STRANGERS = 256;

        int size;
        int count;
        int meanings;
        final int[] earliest = new int[LONGEST];
        private final int[] sounds = new int[LONGEST];
        private final int[] path = new int[LONGEST];
        private final int[] strangers = new int[STRANGERS];
        private final Speech speech;
        private int strangerCount;
        private int slips;
        private int own;

        Ear(Speech spoken) {
            speech = spoken;
        }

        void hear(int[] row, int n, int slipsAllowed) {
            restart(n, slipsAllowed);
            System.arraycopy(row, 0, sounds, 0, size);
        }

        /** SOUNDS of a SENTENCE; all that is as long fits, so that it is seen where strangers differ. */
        void hearWords(int[] row, int n, int meaning) {
            restart(n, LONGEST);
            for (int i = 0; i < size; i++) {
                sounds[i] = speech.sound[row[i]];
            }
            own = meaning;
        }

        private void restart(int n, int slipsAllowed) {
            size = Math.min(n, LONGEST);
            slips = slipsAllowed;
            count = 0;
            meanings = 0;
            strangerCount = 0;
            own = MISSING;
        }

        void listenFrom(int x) {
            listen(x, 0, 0);
        }

        private void listen(int x, int i, int misses) {
            if (i < size) {
                for (int j = 0; j < speech.degree[x]; j++) {
                    follow(speech.wordAt(x, j), i, misses);
                }
            } else if (speech.isEnd(x)) {
                arrive(speech.meaning[x], misses);
            }
        }

        private void follow(int k, int i, int misses) {
            boolean fits = sounds[i] == NONE || sounds[i] == speech.sound[k];
            int missed = fits ? misses : misses | 1 << i;
            if (Integer.bitCount(missed) <= slips) {
                path[i] = k;
                listen(speech.to[k], i + 1, missed);
            }
        }

        private void arrive(int meaning, int misses) {
            if (count == 0) {
                System.arraycopy(path, 0, earliest, 0, size);
            }
            count++;
            meanings |= 1 << meaning;
            if (meaning != own && strangerCount < STRANGERS) {
                strangers[strangerCount] = misses;
                strangerCount++;
            }
        }

        /** Of sets of places at which all strangers are found out the smallest, and of those the least. */
        int fewestPlaces() {
            int best = (1 << size) - 1;
            for (int places = 0; places < 1 << size; places++) {
                if (Integer.bitCount(places) < Integer.bitCount(best) && findsOutAll(places)) {
                    best = places;
                }
            }
            return best;
        }

        private boolean findsOutAll(int places) {
            for (int s = 0; s < strangerCount; s++) {
                if ((strangers[s] & places) == 0) {
                    return false;
                }
            }
            return true;
        }
    }
}
