/** One part for each promise, with answers worked out by hand from the document. */
public final class PromisesTest {
    private static final int BAD = -1, FINDING = -3, STATE = -4, NONE = -9;
    private static final int NOTHING = 1, BEYOND = 2, UNLIKE = 3, NOUGHT = 4, SIZE = 5;

    /**
     * NODES 0 n, 1 COMMA, 2 WHISPER, 3 n, 4 END of 0, 5 LULL, 6 OATH of 1, 7 n, 8 END of 2.
     * SENTENCES: [0 2 6] [0 2 7 9] [0 2 10 8] [0 3] [1 4] [1 5 6] [1 5 7 9] [1 5 10 8].
     */
    private static final String HILLS = "ncwne0lo1ne2 x010x021x132x143x240x234x366x371x565x785x350 d1205d2119d3027";

    /** Eight WORDS to an END of 3, the seventh NODE a COMMA; two DEEDS fill the seven YEARS that are worked in. */
    private static final String EIGHT = "nnnnnncne3 x010x120x230x341x450x560x679x782 d5139d2131";

    private static int wrong = 0;
    private static int promise = 0;

    private static void due(String call, long got, long want) {
        if (got != want) {
            wrong++;
            System.out.println("promise " + promise + ": " + call + " answered " + got + ", due is " + want);
        }
    }

    private static void write(YearWord x, int t, String signs) {
        due("text of " + signs, x.text(t, signs.length()), signs.length());
        for (int i = 0; i < signs.length(); i++) x.put(t, i, signs.charAt(i));
    }

    private static YearWord speaking(String signs) {
        YearWord x = new YearWord();
        write(x, 0, signs);
        if (x.speech(0) < 2) due("speech of " + signs, x.fault(0), NONE);
        return x;
    }

    private static void lay(YearWord x, int r, int... values) {
        x.row(r, values.length);
        for (int i = 0; i < values.length; i++) x.lay(r, i, values[i]);
    }

    private static void say(YearWord x, int... words) {
        for (int k : words) due("say(" + k + ") is taken", x.say(k) >= 0 ? 1 : 0, 1);
    }

    private static void dueRow(YearWord x, int r, int... values) {
        for (int i = 0; i < values.length; i++) {
            due("at(" + r + ", " + i + ")", x.at(r, i), 1);
            due("place " + i + " of row " + r, x.asked(), values[i]);
        }
        due("at behind the last", x.at(r, values.length), FINDING);
        due("which finding", x.finding(), BEYOND);
    }

    private static void dueFinding(YearWord x, String call, long got, int which) {
        due(call, got, FINDING);
        due("finding() behind " + call, x.finding(), which);
    }

    private static void dueAsked(YearWord x, String call, long got, long want, int asked) {
        due(call, got, want);
        due("asked() behind " + call, x.asked(), asked);
    }

    private static void dueRatio(YearWord x, String call, long got, long up, long low) {
        due(call, got, 1);
        due("upper() behind " + call, x.upper(), up);
        due("lower() behind " + call, x.lower(), low);
    }

    public static void main(String[] args) {
        Runnable[] all = {
            PromisesTest::p01, PromisesTest::p02, PromisesTest::p03, PromisesTest::p04, PromisesTest::p05,
            PromisesTest::p06, PromisesTest::p07, PromisesTest::p08, PromisesTest::p09, PromisesTest::p10,
            PromisesTest::p11, PromisesTest::p12, PromisesTest::p13, PromisesTest::p14, PromisesTest::p15,
            PromisesTest::p16, PromisesTest::p17, PromisesTest::p18, PromisesTest::p19, PromisesTest::p20,
            PromisesTest::p21, PromisesTest::p22, PromisesTest::p23, PromisesTest::p24, PromisesTest::p25,
            PromisesTest::p26, PromisesTest::p27, PromisesTest::p28, PromisesTest::p29, PromisesTest::p30,
            PromisesTest::p31, PromisesTest::p32, PromisesTest::p33, PromisesTest::p34, PromisesTest::p35,
            PromisesTest::p36, PromisesTest::p37, PromisesTest::p38, PromisesTest::p39, PromisesTest::p40,
            PromisesTest::p41, PromisesTest::p42, PromisesTest::p43, PromisesTest::p44, PromisesTest::p45,
        };
        for (Runnable part : all) {
            promise++;
            part.run();
        }
        System.out.println(wrong == 0 ? "all " + promise + " promises are kept" : wrong + " answers are not as due");
        if (wrong != 0) System.exit(1);
    }

    /** A new object. */
    private static void p01() {
        YearWord x = new YearWord();
        for (int what = 0; what <= 8; what++) due("count(" + what + ")", x.count(what), 0);
        for (int r = 0; r < 6; r++) dueFinding(x, "at(" + r + ", 0)", x.at(r, 0), NOTHING);
        for (int t = 0; t < 4; t++) dueFinding(x, "fault(" + t + ")", x.fault(t), NOTHING);
        due("node(0, 0)", x.node(0, 0), BAD);
        due("word(0, 0)", x.word(0, 0), BAD);
        due("deed(0, 0)", x.deed(0, 0), BAD);
        due("here()", x.here(), STATE);
        dueFinding(x, "on(0)", x.on(0), NOTHING);
        due("asked()", x.asked(), 0);
    }

    private static void p02() {
        YearWord x = new YearWord();
        due("row(0, 0)", x.row(0, 0), 0);
        due("row(5, 40)", x.row(5, 40), 40);
        x.lay(5, 39, 7);
        due("row(5, 40)", x.row(5, 40), 40);
        dueAsked(x, "at(5, 39)", x.at(5, 39), 1, 0);
        x.lay(5, 3, 8);
        due("row(5, 2)", x.row(5, 2), 2);
        dueFinding(x, "at(5, 2)", x.at(5, 2), BEYOND);
        due("row(5, 4)", x.row(5, 4), 4);
        dueAsked(x, "at(5, 3)", x.at(5, 3), 1, 0);
        due("row(0, 41)", x.row(0, 41), BAD);
        due("row(-1, 1)", x.row(-1, 1), BAD);
        due("row(6, 1)", x.row(6, 1), BAD);
        due("row(6, -1)", x.row(6, -1), BAD);
        due("findings(5)", x.findings(SIZE), 0);
        dueFinding(x, "row(5, -1)", x.row(5, -1), SIZE);
        due("at(5, 3)", x.at(5, 3), 1);
        due("row(5, max)", x.row(5, Integer.MAX_VALUE), BAD);
        dueFinding(x, "row(5, min)", x.row(5, Integer.MIN_VALUE), SIZE);
    }

    private static void p03() {
        YearWord x = new YearWord();
        due("lay(6, 0, 0)", x.lay(6, 0, 0), BAD);
        due("lay(-1, 0, 0)", x.lay(-1, 0, 0), BAD);
        dueFinding(x, "lay(2, 0, 0)", x.lay(2, 0, 0), NOTHING);
        x.row(2, 3);
        dueAsked(x, "lay(2, 2, -5)", x.lay(2, 2, -5), 1, 0);
        dueAsked(x, "lay(2, 2, 6)", x.lay(2, 2, 6), 1, -5);
        dueFinding(x, "lay(2, 3, 1)", x.lay(2, 3, 1), BEYOND);
        dueFinding(x, "lay(2, -1, 1)", x.lay(2, -1, 1), BEYOND);
        due("asked() stays", x.asked(), -5);
        dueRow(x, 2, 0, 0, 6);
    }

    private static void p04() {
        YearWord x = new YearWord();
        due("at(6, 0)", x.at(6, 0), BAD);
        dueFinding(x, "at(1, 0)", x.at(1, 0), NOTHING);
        lay(x, 1, 4, Integer.MIN_VALUE);
        dueAsked(x, "at(1, 0)", x.at(1, 0), 1, 4);
        dueAsked(x, "at(1, 1)", x.at(1, 1), 1, Integer.MIN_VALUE);
        dueFinding(x, "at(1, 2)", x.at(1, 2), BEYOND);
        dueFinding(x, "at(1, min)", x.at(1, Integer.MIN_VALUE), BEYOND);
    }

    private static void p05() {
        YearWord x = new YearWord();
        due("tear(6)", x.tear(6), BAD);
        due("tear(-1)", x.tear(-1), BAD);
        dueFinding(x, "tear(3)", x.tear(3), NOTHING);
        x.row(3, 0);
        due("tear(3)", x.tear(3), 1);
        dueFinding(x, "tear(3) again", x.tear(3), NOTHING);
        dueFinding(x, "mean(3)", x.mean(3), NOTHING);
        due("count(6)", x.count(6), 0);
    }

    private static void p06() {
        YearWord x = new YearWord();
        lay(x, 0, 1, 2, 3, 4, 5);
        due("copy onto itself, up", x.copy(0, 0, 0, 1, 4), 1);
        dueRow(x, 0, 1, 1, 2, 3, 4);
        due("copy onto itself, down", x.copy(0, 1, 0, 0, 4), 1);
        dueRow(x, 0, 1, 2, 3, 4, 4);
        lay(x, 1, 9, 9, 9);
        due("copy to another", x.copy(0, 3, 1, 1, 2), 1);
        dueRow(x, 1, 9, 4, 4);
        due("copy none at the end", x.copy(0, 5, 1, 3, 0), 1);
        dueFinding(x, "copy none beyond", x.copy(0, 6, 1, 0, 0), BEYOND);
        dueFinding(x, "copy too many from", x.copy(1, 1, 0, 0, 3), BEYOND);
        dueFinding(x, "copy too many to", x.copy(0, 0, 1, 1, 3), BEYOND);
        dueFinding(x, "copy from -1", x.copy(0, -1, 1, 0, 1), BEYOND);
        dueFinding(x, "copy to -1", x.copy(0, 0, 1, -1, 1), BEYOND);
        dueFinding(x, "copy max", x.copy(0, 1, 1, 1, Integer.MAX_VALUE), BEYOND);
        dueFinding(x, "copy -1", x.copy(0, 0, 2, 0, -1), SIZE);
        dueFinding(x, "copy from a missing one", x.copy(2, 0, 0, 0, 0), NOTHING);
        dueFinding(x, "copy to a missing one", x.copy(0, 9, 2, 0, 0), NOTHING);
        due("copy from 6", x.copy(6, 0, 0, 0, -1), BAD);
        due("copy to 6", x.copy(0, 0, 6, 0, 0), BAD);
        due("copy to -1", x.copy(0, 0, -1, 0, 0), BAD);
        dueRow(x, 1, 9, 4, 4);
    }

    private static void p07() {
        YearWord x = new YearWord();
        due("mean(6)", x.mean(6), BAD);
        dueFinding(x, "mean(0)", x.mean(0), NOTHING);
        x.row(0, 0);
        dueFinding(x, "mean(0)", x.mean(0), NOUGHT);
        lay(x, 0, -3, -4);
        dueAsked(x, "mean(0)", x.mean(0), 1, -3);
        lay(x, 0, 3, 4, 4);
        dueAsked(x, "mean(0)", x.mean(0), 1, 3);
        lay(x, 0, Integer.MAX_VALUE, Integer.MAX_VALUE, Integer.MAX_VALUE);
        dueAsked(x, "mean(0)", x.mean(0), 1, Integer.MAX_VALUE);
        x.row(0, 40);
        for (int i = 0; i < 40; i++) x.lay(0, i, Integer.MIN_VALUE);
        dueAsked(x, "mean(0) of forty", x.mean(0), 1, Integer.MIN_VALUE);
    }

    private static void p08() {
        YearWord x = new YearWord();
        due("text(0, 0)", x.text(0, 0), 0);
        due("text(3, 80)", x.text(3, 80), 80);
        due("put(3, 79, 65)", x.put(3, 79, 65), 1032);
        due("text(3, 80)", x.text(3, 80), 80);
        due("put(3, 79, 65)", x.put(3, 79, 65), 1032);
        due("text(0, 81)", x.text(0, 81), BAD);
        due("text(4, -1)", x.text(4, -1), BAD);
        due("text(-1, 1)", x.text(-1, 1), BAD);
        dueFinding(x, "text(3, -1)", x.text(3, -1), SIZE);
        due("put(3, 79, 66)", x.put(3, 79, 66), 1065);
        due("count(7)", x.count(7), 2);
    }

    private static void p09() {
        YearWord x = new YearWord();
        due("put(4, 0, 0)", x.put(4, 0, 0), BAD);
        dueFinding(x, "put(1, 0, 0)", x.put(1, 0, 0), NOTHING);
        x.text(1, 2);
        due("put(1, 0, 255)", x.put(1, 0, 255), 1032);
        due("put(1, 0, 128)", x.put(1, 0, 128), 999);
        due("put(1, 0, 383)", x.put(1, 0, 383), 872);
        due("put(1, 0, 0)", x.put(1, 0, 0), 1127);
        due("put(1, 0, 0)", x.put(1, 0, 0), 1000);
        dueFinding(x, "put(1, 2, 0)", x.put(1, 2, 0), BEYOND);
        dueFinding(x, "put(1, -1, 0)", x.put(1, -1, 0), BEYOND);
    }

    private static void dueFault(String signs, int place) {
        YearWord x = new YearWord();
        write(x, 2, signs);
        due("fault of '" + signs + "'", x.fault(2), place);
        due("speech of '" + signs + "'", x.speech(2) >= 2 ? NONE : place, place);
        due("what is refused changes nothing: '" + signs + "'", x.count(0) > 0 ? NONE : place, place);
    }

    private static void p10() {
        dueFault("", 0);
        dueFault("   ", 3);
        dueFault("nn", NONE);
        dueFault("  n  n  ", NONE);
        dueFault("n", 1);
        dueFault("n  ", 3);
        dueFault("n  x", 3);
        dueFault("nd", 1);
        dueFault("n z", 2);
        dueFault("N", 0);
        dueFault("necwol", 2);
        dueFault("ne5cwo0l", NONE);
        dueFault("ne6", 2);
        dueFault("ne n", 2);
        dueFault("nno", 3);
        dueFault("nnnnnnnnn", NONE);
        dueFault("nnnnnnnnn n", 10);
        dueFault("nnnnnnnnnx085", NONE);
        dueFault("nnnnnnnnnx095", 11);
        dueFault("nnx01", 5);
        dueFault("nnx0 10", 4);
        dueFault("nnx019", NONE);
        dueFault("nnx01a", 5);
        dueFault("nnx01:", 5);
        dueFault("nnx01/", 5);
        dueFault("nnx0:", 4);
        dueFault("nnx:", 3);
        dueFault("nnx/", 3);
        dueFault("nnx1", 4);
        dueFault("nnx11", 4);
        dueFault("nnx12", 4);
        dueFault("nnx20", 3);
        dueFault("nnx00", 4);
        dueFault("nnnx10", 5);
        dueFault("ne0nx12", 5);
        dueFault("no0nx12", 5);
        dueFault("nnx010x010", 9);
        dueFault("nnnx010x020", 10);
        dueFault("nnnx010x120", NONE);
        dueFault("nnx010x011x012x013", NONE);
        dueFault("nnx010x011x012x013x014", 19);
        dueFault("nnx010n", 6);
        dueFault("nnx010e0", 6);
        dueFault("nnx010 d1000x010", 12);
        dueFault("nnx010 d1000n", 12);
        dueFault("nnd1000n", 7);
        dueFault("nnd1000x010", 7);
        dueFault("nnd1:", 4);
        dueFault("nnd1/", 4);
        dueFault("nnd10/", 5);
        dueFault("nnd100:", 6);
        dueFault("nnd100/", 6);
        dueFault("ne/", 2);
        dueFault("nnd5959", NONE);
        dueFault("nnd", 3);
        dueFault("nnd0", 3);
        dueFault("nnd6", 3);
        dueFault("nnd1", 4);
        dueFault("nnd1x", 4);
        dueFault("nnd19", 5);
        dueFault("nnd196", 5);
        dueFault("nnd195", 6);
        dueFault("nnd195 ", 6);
        dueFault("nnd1959d1959d1959d1959", NONE);
        dueFault("nnd1959d1959d1959d1959 d1959", 23);
        String fourteen = "nnnnn" + "x010x011x012x013" + "x120x121x122x123" + "x230x231x232x233" + "x340x341";
        dueFault(fourteen, NONE);
        dueFault(fourteen + "x342", 61);
        dueFault(fourteen + "d1234", NONE);
        YearWord x = new YearWord();
        due("fault(4)", x.fault(4), BAD);
        due("fault(-1)", x.fault(-1), BAD);
        dueFinding(x, "fault(0)", x.fault(0), NOTHING);
        x.text(0, 3);
        x.put(0, 0, 'n');
        x.put(0, 1, 'n');
        x.put(0, 2, -1);
        due("fault at byte -1", x.fault(0), 2);
    }

    private static void p11() {
        YearWord x = new YearWord();
        due("speech(4)", x.speech(4), BAD);
        dueFinding(x, "speech(1)", x.speech(1), NOTHING);
        write(x, 1, "nnx");
        due("speech(1)", x.speech(1), STATE);
        write(x, 1, HILLS);
        due("speech(1)", x.speech(1), 9);
        x.begin(0);
        say(x, 0, 2);
        x.keep(0);
        x.keep(2);
        x.prize(0, 1);
        write(x, 2, "nn e0 z");
        due("speech(2)", x.speech(2), STATE);
        due("WORDS SAID stay", x.count(3), 2);
        due("kept YEARS stay", x.count(8), 2);
        due("speech(1) anew", x.speech(1), 9);
        due("nothing is SAID", x.count(3), 0);
        dueAsked(x, "deed(0, 4)", x.deed(0, 4), 1, 0);
        dueAsked(x, "deed(0, 3)", x.deed(0, 3), 1, 5);
        dueFinding(x, "on(0)", x.on(0), NOTHING);
        due("count(8)", x.count(8), 0);
        x.text(1, 0);
        due("the SPEECH stays without its TEXT", x.count(0), 9);
        write(x, 3, "nn");
        due("speech(3)", x.speech(3), 2);
        due("count(1)", x.count(1), 0);
        due("count(2)", x.count(2), 0);
        due("node(2, 0)", x.node(2, 0), BAD);
    }

    private static void p12() {
        YearWord x = speaking(HILLS);
        int[] kinds = {0, 2, 3, 0, 1, 5, 4, 0, 1};
        int[] words = {3, 12, 48, 1 << 6 | 1 << 7 | 1 << 10, 0, 256, 0, 512, 0};
        int[] sentences = {8, 4, 4, 3, 1, 1, 1, 1, 1};
        int[] meanings = {7, 7, 7, 6, 1, 2, 2, 4, 4};
        for (int i = 0; i < 9; i++) {
            dueAsked(x, "node(" + i + ", 0)", x.node(i, 0), 1, kinds[i]);
            dueAsked(x, "node(" + i + ", 1)", x.node(i, 1), 1, words[i]);
            dueAsked(x, "node(" + i + ", 2)", x.node(i, 2), 1, sentences[i]);
            dueAsked(x, "node(" + i + ", 3)", x.node(i, 3), 1, meanings[i]);
        }
        due("node(9, 0)", x.node(9, 0), BAD);
        due("node(-1, 0)", x.node(-1, 0), BAD);
        due("node(0, 4)", x.node(0, 4), BAD);
        due("node(0, -1)", x.node(0, -1), BAD);
        YearWord mute = speaking("nnnx010x021");
        dueAsked(mute, "node(1, 2)", mute.node(1, 2), 1, 0);
        dueAsked(mute, "node(0, 2)", mute.node(0, 2), 1, 0);
        dueAsked(mute, "node(0, 3)", mute.node(0, 3), 1, 0);
    }

    private static void p13() {
        YearWord x = speaking(HILLS);
        int[][] words = {{0, 1, 0}, {0, 2, 1}, {1, 3, 2}, {1, 4, 3}, {2, 4, 0}, {2, 3, 4}, {3, 6, 6}, {3, 7, 1}, {5, 6, 5}, {7, 8, 5}, {3, 5, 0}};
        for (int k = 0; k < words.length; k++) {
            for (int what = 0; what < 3; what++) dueAsked(x, "word(" + k + ", " + what + ")", x.word(k, what), 1, words[k][what]);
        }
        due("word(11, 0)", x.word(11, 0), BAD);
        due("word(-1, 0)", x.word(-1, 0), BAD);
        due("word(0, 3)", x.word(0, 3), BAD);
        due("word(0, -1)", x.word(0, -1), BAD);
    }

    private static void p14() {
        YearWord x = speaking(HILLS);
        int[][] deeds = {{1, 2, 0, 5, 0}, {2, 1, 1, 9, 0}, {3, 0, 2, 7, 0}};
        for (int d = 0; d < deeds.length; d++) {
            for (int what = 0; what < 5; what++) dueAsked(x, "deed(" + d + ", " + what + ")", x.deed(d, what), 1, deeds[d][what]);
        }
        x.begin(1);
        dueAsked(x, "BEGUN: deed(1, 4)", x.deed(1, 4), 1, 1);
        say(x, 0, 2);
        dueAsked(x, "a YEAR and a famine: deed(1, 4)", x.deed(1, 4), 1, 1);
        dueAsked(x, "deed(1, 0) stays", x.deed(1, 0), 1, 2);
        say(x, 10);
        dueAsked(x, "DONE: deed(1, 4)", x.deed(1, 4), 1, 2);
        x.begin(0);
        say(x, 8);
        dueAsked(x, "lost: deed(0, 4)", x.deed(0, 4), 1, 3);
        dueAsked(x, "DONE is not lost: deed(1, 4)", x.deed(1, 4), 1, 2);
        due("deed(3, 0)", x.deed(3, 0), BAD);
        due("deed(-1, 0)", x.deed(-1, 0), BAD);
        due("deed(0, 5)", x.deed(0, 5), BAD);
        due("deed(0, -1)", x.deed(0, -1), BAD);
    }

    private static void p15() {
        YearWord x = speaking("nwlco2e2e1 x010x141x150x142x163x021x230x231 d4121d2020d5050");
        due("mark(4, 1)", x.mark(4, 1), 2);
        due("mark(6, 1)", x.mark(6, 1), 1);
        due("mark(2, 2), a LULL is a COMMA", x.mark(2, 2), 1);
        due("mark(3, 2)", x.mark(3, 2), 2);
        due("mark(1, 3)", x.mark(1, 3), 3);
        due("mark(4, 4)", x.mark(4, 4), 2);
        due("mark(2, 5)", x.mark(2, 5), 5);
        dueFinding(x, "mark(0, 1)", x.mark(0, 1), UNLIKE);
        dueFinding(x, "mark(0, 5)", x.mark(0, 5), UNLIKE);
        dueFinding(x, "mark(5, 4), an END is no OATH", x.mark(5, 4), UNLIKE);
        dueFinding(x, "mark(3, 5), a COMMA is no LULL", x.mark(3, 5), UNLIKE);
        dueFinding(x, "mark(2, 3)", x.mark(2, 3), UNLIKE);
        dueFinding(x, "mark(1, 2)", x.mark(1, 2), UNLIKE);
        due("mark(0, 0)", x.mark(0, 0), BAD);
        due("mark(0, 6)", x.mark(0, 6), BAD);
        due("mark(0, -1)", x.mark(0, -1), BAD);
        due("mark(7, 1)", x.mark(7, 1), BAD);
        due("mark(-1, 1)", x.mark(-1, 1), BAD);
        x.begin(2);
        say(x, 5);
        due("BEGUN, a YEAR less: mark(2, 5)", x.mark(2, 5), 5);
        say(x, 6);
        due("that one is lost: mark(2, 5)", x.mark(2, 5), 4);
        YearWord none = speaking("le0x010");
        due("no DEEDS: mark(0, 5)", none.mark(0, 5), 0);
        due("mark(0, 2)", none.mark(0, 2), 0);
    }

    private static void p16() {
        YearWord x = speaking("ne0x010d1204");
        due("prize(0, 9)", x.prize(0, 9), 4);
        dueAsked(x, "deed(0, 3)", x.deed(0, 3), 1, 9);
        dueAsked(x, "worst()", x.worst(), 7, 0);
        due("prize(0, 0)", x.prize(0, 0), 9);
        dueAsked(x, "worst()", x.worst(), 0, NONE);
        due("prize(0, 10)", x.prize(0, 10), BAD);
        due("prize(0, -1)", x.prize(0, -1), BAD);
        due("prize(1, 1)", x.prize(1, 1), BAD);
        due("prize(-1, 1)", x.prize(-1, 1), BAD);
        due("prize(0, 3)", x.prize(0, 3), 0);
        dueRatio(x, "hopes()", x.hopes(), 1, 1);
        x.prize(0, 5);
        dueRatio(x, "hopes()", x.hopes(), 3, 1);
        x.begin(0);
        say(x, 0);
        x.undo(0);
        dueAsked(x, "the WORTH is not undone", x.deed(0, 3), 1, 5);
    }

    private static void p17() {
        YearWord x = speaking(HILLS);
        due("say(11)", x.say(11), BAD);
        due("say(-1)", x.say(-1), BAD);
        due("say(2)", x.say(2), STATE);
        due("say(1)", x.say(1), 2);
        due("say(1) again", x.say(1), STATE);
        due("say(5)", x.say(5), 3);
        due("say(6)", x.say(6), 6);
        due("say(6) when it is OVER", x.say(6), STATE);
        due("count(3)", x.count(3), 3);
        YearWord y = speaking("nnnnnnnnnx010x120x230x340x450x560x670x780");
        say(y, 0, 1, 2, 3, 4, 5, 6);
        due("the eighth WORD", y.say(7), 8);
        due("say(7)", y.say(7), STATE);
    }

    private static void p18() {
        YearWord x = speaking("nlne0x010x121x232 d2000d1000d1000");
        due("begin(3)", x.begin(3), BAD);
        due("begin(-1)", x.begin(-1), BAD);
        due("begin(0)", x.begin(0), 2);
        due("begin(0) again", x.begin(0), STATE);
        due("begin(1), another one is BEGUN", x.begin(1), STATE);
        say(x, 0);
        due("begin(1), another one is not DONE", x.begin(1), STATE);
        say(x, 1);
        due("begin(0), lost", x.begin(0), STATE);
        due("begin(1)", x.begin(1), 1);
        say(x, 2);
        due("begin(2), it is OVER", x.begin(2), STATE);
        x.undo(2);
        due("begin(1), BEGUN ahead of that WORD", x.begin(1), STATE);
        YearWord y = speaking("nne0x010x121d1000d3000");
        y.begin(0);
        say(y, 0);
        due("begin(0), DONE", y.begin(0), STATE);
        due("begin(1) behind one that is DONE", y.begin(1), 3);
        YearWord mute = speaking("nnx010d1000");
        say(mute, 0);
        due("begin(0) where it is MUTE", mute.begin(0), STATE);
    }

    private static void p19() {
        YearWord x = speaking(HILLS);
        due("undo(1)", x.undo(1), BAD);
        due("undo(-1)", x.undo(-1), BAD);
        due("undo(0)", x.undo(0), 0);
        x.begin(1);
        say(x, 1, 5, 10, 8);
        dueAsked(x, "deed(1, 4)", x.deed(1, 4), 1, 2);
        due("undo(4)", x.undo(4), 0);
        due("undo(5)", x.undo(5), BAD);
        due("undo(2)", x.undo(2), 2);
        dueAsked(x, "here()", x.here(), 3, 1);
        dueAsked(x, "deed(1, 4)", x.deed(1, 4), 1, 1);
        say(x, 6);
        dueAsked(x, "one YEAR was left", x.deed(1, 4), 1, 2);
        due("undo(0)", x.undo(0), 3);
        dueAsked(x, "BEGUN ahead of WORD 0", x.deed(1, 4), 1, 1);
        YearWord y = speaking(HILLS);
        say(y, 0);
        y.begin(0);
        due("undo(1) undoes no WORD", y.undo(1), 0);
        dueAsked(y, "nor a DEED", y.deed(0, 4), 1, 1);
        due("undo(0)", y.undo(0), 1);
        dueAsked(y, "deed(0, 4)", y.deed(0, 4), 1, 0);
    }

    private static void p20() {
        YearWord x = speaking(HILLS);
        dueAsked(x, "here()", x.here(), 0, 0);
        say(x, 1);
        dueAsked(x, "here()", x.here(), 2, 1);
        say(x, 5);
        dueAsked(x, "a WHISPER costs no YEAR", x.here(), 3, 1);
        say(x, 10, 8);
        dueAsked(x, "a LULL costs one", x.here(), 6, 3);
        due("STATE", new YearWord().here(), STATE);
    }

    private static void p21() {
        YearWord x = speaking(HILLS);
        x.begin(0);
        dueAsked(x, "over()", x.over(), 0, 0);
        say(x, 1);
        dueAsked(x, "over()", x.over(), 0, 0);
        say(x, 4);
        dueAsked(x, "WORTH 5 less COST 2", x.over(), 1, 3);
        x.undo(0);
        say(x, 0);
        x.begin(1);
        say(x, 2, 10, 8);
        dueAsked(x, "COST 2 of another MEANING; what is lost costs nothing", x.over(), 1, -2);
        x.speech(0);
        x.begin(1);
        say(x, 0, 2, 6);
        dueAsked(x, "at an OATH twice 9 less 1", x.over(), 1, 17);
        x.speech(0);
        x.begin(2);
        say(x, 0, 3);
        dueAsked(x, "BEGUN, not DONE", x.over(), 1, 0);
        YearWord mute = speaking("nnx010d1305");
        mute.begin(0);
        say(mute, 0);
        dueAsked(mute, "MUTE", mute.over(), 1, -3);
        YearWord two = speaking("nno3x010x120d1134d1439");
        two.begin(0);
        say(two, 0);
        two.begin(1);
        say(two, 1);
        dueAsked(two, "two DEEDS", two.over(), 1, 7 + 14);
        YearWord end = speaking("e4n");
        dueAsked(end, "an END at once", end.over(), 1, 0);
        due("STATE", new YearWord().over(), STATE);
    }

    private static void p22() {
        YearWord x = speaking(HILLS);
        due("told(6)", x.told(6), BAD);
        due("told(-1)", x.told(-1), BAD);
        due("told(1)", x.told(1), 0);
        dueRow(x, 1);
        say(x, 1, 5, 7);
        lay(x, 1, 9, 9, 9, 9, 9);
        due("told(1)", x.told(1), 3);
        dueRow(x, 1, 1, 5, 7);
        due("no NODES: told(5)", new YearWord().told(5), 0);
    }

    private static void p23() {
        YearWord x = speaking(HILLS);
        due("keep(3)", x.keep(3), BAD);
        due("keep(-1)", x.keep(-1), BAD);
        due("keep(0)", x.keep(0), 0);
        say(x, 0, 2);
        due("keep(0)", x.keep(0), 2);
        due("keep(2)", x.keep(2), 2);
        due("count(8)", x.count(8), 2);
        due("STATE", new YearWord().keep(0), STATE);
        due("BAD ahead of STATE", new YearWord().keep(3), BAD);
    }

    private static void p24() {
        YearWord x = speaking(HILLS);
        due("on(3)", x.on(3), BAD);
        due("on(-1)", x.on(-1), BAD);
        dueFinding(x, "on(1)", x.on(1), NOTHING);
        x.begin(1);
        say(x, 0, 2);
        x.keep(1);
        x.prize(1, 4);
        say(x, 6);
        due("on(1)", x.on(1), 2);
        dueAsked(x, "here()", x.here(), 3, 2);
        dueAsked(x, "deed(1, 4)", x.deed(1, 4), 1, 1);
        dueAsked(x, "the WORTH stays", x.deed(1, 3), 1, 4);
        say(x, 7);
        dueAsked(x, "one YEAR was left", x.deed(1, 4), 1, 2);
        due("on(1) once more", x.on(1), 2);
        due("undo(1)", x.undo(1), 1);
        dueAsked(x, "as ahead of WORD 1", x.deed(1, 4), 1, 1);
        due("undo(0)", x.undo(0), 1);
        x.told(0);
        due("on(1) from none", x.on(1), 2);
        x.told(0);
        dueRow(x, 0, 0, 2);
    }

    private static void p25() {
        YearWord x = speaking(HILLS);
        dueRatio(x, "odds(0)", x.odds(0), 1, 2);
        dueRatio(x, "odds(1)", x.odds(1), 1, 3);
        dueRatio(x, "odds(2)", x.odds(2), 1, 6);
        dueRatio(x, "odds(3)", x.odds(3), 0, 1);
        due("odds(6)", x.odds(6), BAD);
        due("odds(-1)", x.odds(-1), BAD);
        due("lower() stays", x.lower(), 1);
        say(x, 0, 2);
        dueRatio(x, "odds(1)", x.odds(1), 2, 3);
        say(x, 6);
        dueRatio(x, "odds(1)", x.odds(1), 1, 1);
        dueRatio(x, "odds(2)", x.odds(2), 0, 1);
        YearWord y = speaking("nnne0nx010x021x032x043x120x131x142x230x241");
        // From 2 a half; from 1 a third of 1/2 and a third; from 0 a fourth of 1/2, 1/2, 1.
        dueRatio(y, "odds(0) where some end MUTE", y.odds(0), 1, 2);
        due("STATE", new YearWord().odds(5), STATE);
        due("BAD ahead of STATE", new YearWord().odds(6), BAD);
    }

    private static void p26() {
        YearWord x = speaking(HILLS);
        dueAsked(x, "years()", x.years(), 1, 4);
        say(x, 1);
        dueAsked(x, "years()", x.years(), 0, 2);
        say(x, 4);
        dueAsked(x, "years()", x.years(), 0, 0);
        YearWord mute = speaking("nnnx010x121");
        mute.word(1, 2);
        dueAsked(mute, "years(), asked() stays", mute.years(), NONE, 1);
        YearWord y = speaking("ne0nnx010x021x232");
        dueAsked(y, "what ends MUTE is not the most", y.years(), 1, 1);
        YearWord z = speaking("nne0nx010x121x032");
        dueAsked(z, "nor is it the fewest", z.years(), 2, 2);
        due("STATE", new YearWord().years(), STATE);
    }

    private static void p27() {
        YearWord x = speaking(HILLS);
        int[] many = {0, 1, 2, 3, 2, 0, 0, 0, 0};
        int[] first = {NONE, 1, 0, 0, 0, NONE, NONE, NONE, NONE};
        for (int n = 0; n <= 8; n++) dueAsked(x, "just(" + n + ")", x.just(n), many[n], first[n]);
        due("just(9)", x.just(9), BAD);
        due("just(-1)", x.just(-1), BAD);
        say(x, 1);
        dueAsked(x, "just(0)", x.just(0), 1, 4);
        dueAsked(x, "just(1)", x.just(1), 1, 5);
        say(x, 4);
        dueAsked(x, "just(0), the empty one", x.just(0), 1, NONE);
        YearWord y = speaking("nnnnnnnne0x010x120x230x340x450x560x670x780");
        dueAsked(y, "just(8)", y.just(8), 1, 0);
        due("STATE", new YearWord().just(8), STATE);
        due("BAD ahead of STATE", new YearWord().just(9), BAD);
    }

    private static void p28() {
        YearWord x = speaking(HILLS);
        due("known()", x.known(), 3);
        say(x, 1);
        due("known()", x.known(), 1);
        say(x, 5, 7);
        due("known()", x.known(), 0);
        YearWord mute = speaking("nne1nx010x121x132");
        due("MUTE counts as one more", mute.known(), 2);
        YearWord same = speaking("nne1o1x010x121x132");
        due("one MEANING of two ENDS", same.known(), 0);
        YearWord whisper = speaking("wwe1o2x010x121x132");
        due("whispers cost no YEAR", whisper.known(), 0);
        YearWord dumb = speaking("nnx010");
        due("MUTE alone", dumb.known(), 0);
        due("STATE", new YearWord().known(), STATE);
    }

    private static void p29() {
        YearWord x = speaking(HILLS);
        dueAsked(x, "tell()", x.tell(), 0, 3);
        say(x, 0, 2);
        dueAsked(x, "tell()", x.tell(), 7, 1);
        say(x, 6);
        x.word(0, 1);
        dueAsked(x, "tell() when it is OVER; asked() stays", x.tell(), NONE, 1);
        YearWord one = speaking("nne1e2x010x121x132");
        dueAsked(one, "one WORD alone", one.tell(), 0, 2);
        YearWord mute = speaking("nne1nx010x021x032");
        dueAsked(mute, "MUTE is no MEANING", mute.tell(), 0, 1);
        YearWord six = speaking("nnne0e1e2e3e4e5x010x120x131x142x153x260x271x282");
        dueAsked(six, "six MEANINGS", six.tell(), 0, 6);
        YearWord four = speaking("ne0e1e2e3x010x021x032x043");
        dueAsked(four, "the first of four", four.tell(), 0, 3);
        YearWord split = speaking("nnne0e1e2e3x010x131x142x053x064");
        dueAsked(split, "the one that splits in halves", split.tell(), 0, 2);
        due("STATE", new YearWord().tell(), STATE);
    }

    private static void p30() {
        YearWord x = speaking(HILLS);
        dueAsked(x, "worst(): a free DEED ahead of none", x.worst(), 0, 2);
        x.begin(1);
        dueAsked(x, "worst(): BEGUN, it costs 1 at END 2", x.worst(), -1, NONE);
        say(x, 0, 2, 6);
        dueAsked(x, "worst() when it is OVER", x.worst(), 17, NONE);
        YearWord sure = speaking("nne0e1x010x120x131d1105d1219");
        // At 0 DEED 0 is sure of 4 at END 0, but -1 at END 1; both DEEDS: 4 - 2, 7 - 1.
        dueAsked(sure, "worst()", sure.worst(), 2, 0);
        YearWord alike = speaking("ne0x010d1103d1204d1204");
        dueAsked(alike, "the first of alike ones", alike.worst(), 2, 0);
        YearWord none = speaking("ne0x010d1909");
        dueAsked(none, "a DEED ahead of none", none.worst(), 0, 0);
        none.prize(0, 8);
        dueAsked(none, "none", none.worst(), 0, NONE);
        YearWord later = speaking("lne0x010x121d1005");
        dueAsked(later, "in a LULL it would be lost", later.worst(), 5, NONE);
        YearWord comma = speaking("cne0x010x121d1005");
        dueAsked(comma, "in a famine it may wait", comma.worst(), 5, 0);
        YearWord reply = speaking("nnne0e1x010x021x130x241d1206d1217");
        // Behind the first WORD it is known which DEED is worth something.
        dueAsked(reply, "a PLAN waits for what is SAID", reply.worst(), 4, NONE);
        YearWord mute = speaking("nnx010d1309");
        mute.begin(0);
        dueAsked(mute, "MUTE costs", mute.worst(), -3, NONE);
        due("STATE", new YearWord().worst(), STATE);
    }

    private static void p31() {
        YearWord x = speaking("ne0e1e2x010x021x032d1108d1219");
        dueRatio(x, "hopes()", x.hopes(), 5, 3);
        dueAsked(x, "hopes()", x.hopes(), 1, 0);
        x.prize(0, 7);
        dueRatio(x, "hopes()", x.hopes(), 4, 3);
        x.prize(0, 3);
        dueRatio(x, "hopes(): 9 by 3 less 2", x.hopes(), 1, 1);
        due("asked()", x.asked(), 1);
        x.prize(1, 6);
        dueRatio(x, "hopes()", x.hopes(), 0, 1);
        due("alike ones, DEEDS ahead of none", x.asked(), 0);
        x.prize(0, 2);
        x.prize(1, 5);
        dueRatio(x, "hopes()", x.hopes(), 0, 1);
        due("none", x.asked(), NONE);
        x.prize(0, 1);
        x.begin(0);
        dueRatio(x, "a mean below 0", x.hopes(), -2, 3);
        due("none can be", x.asked(), NONE);
        say(x, 0);
        dueRatio(x, "when it is OVER", x.hopes(), 0, 1);
        YearWord two = speaking("nnne0e1x010x021x132x143x144x230d1206");
        // END 0 comes from 1 with a third, from 2 for sure: 6 by 2/3 less 2; or 0 and 4, each by a half.
        dueRatio(two, "hopes()", two.hopes(), 2, 1);
        due("asked(): it waits, and as well can begin now", two.asked(), 0);
        two.prize(0, 3);
        dueRatio(two, "hopes(): only at 2", two.hopes(), 1, 2);
        due("asked()", two.asked(), NONE);
        YearWord hills = speaking(HILLS);
        due("hopes()", hills.hopes(), 1);
        due("STATE", new YearWord().hopes(), STATE);
    }

    private static void p32() {
        YearWord x = speaking("nnne0o1x010x021x130x241d1206d1217");
        lay(x, 2, 0, 2);
        dueAsked(x, "brings(2)", x.brings(2), 1, 4);
        lay(x, 2, 1, 3);
        // DEED 0 is BEGUN at once, as it is alike at worst; then DEED 1: 14 - 2 - 2.
        dueAsked(x, "brings(2)", x.brings(2), 1, 10);
        due("nothing is SAID", x.count(3), 0);
        dueAsked(x, "nothing is BEGUN", x.deed(1, 4), 1, 0);
        lay(x, 2, 0);
        dueFinding(x, "not to an END", x.brings(2), UNLIKE);
        lay(x, 2, 0, 3);
        dueFinding(x, "not from there", x.brings(2), UNLIKE);
        lay(x, 2, 0, 2, 2);
        dueFinding(x, "behind the END", x.brings(2), UNLIKE);
        lay(x, 2, 0, 4);
        dueFinding(x, "no WORD", x.brings(2), UNLIKE);
        lay(x, 2, -1, 2);
        dueFinding(x, "no WORD", x.brings(2), UNLIKE);
        x.row(2, 9);
        dueFinding(x, "nine", x.brings(2), SIZE);
        x.tear(2);
        dueFinding(x, "a missing ROW", x.brings(2), NOTHING);
        due("brings(6)", x.brings(6), BAD);
        due("brings(-1)", x.brings(-1), BAD);
        say(x, 1);
        x.begin(0);
        lay(x, 2, 3);
        dueAsked(x, "what is BEGUN, too", x.brings(2), 1, -2);
        due("STATE ahead of NOTHING", new YearWord().brings(0), STATE);
        YearWord eight = speaking(EIGHT);
        lay(eight, 0, 0, 1, 2, 3, 4, 5, 6, 7);
        dueAsked(eight, "eight WORDS: 9 - 1 and 1 - 1", eight.brings(0), 1, 8);
        YearWord greedy = speaking("nne0e1x010x120x131d1209d1000");
        lay(greedy, 0, 0, 2);
        // worst() is 0 by the free DEED 1; DEED 0 would be worth 7 if END 0 were known.
        dueAsked(greedy, "as worst() tells", greedy.brings(0), 1, 0);
        YearWord mute = speaking("nnx010d1309");
        lay(mute, 0, 0);
        dueAsked(mute, "to a MUTE NODE", mute.brings(0), 1, 0);
        mute.begin(0);
        dueAsked(mute, "to a MUTE NODE", mute.brings(0), 1, -3);
    }

    private static void p33() {
        YearWord x = speaking("nne0e1x010x120x131d1209d1000d2119");
        lay(x, 0, 0, 1);
        dueAsked(x, "knows(0)", x.knows(0), 1, 7);
        lay(x, 0, 0, 2);
        dueAsked(x, "knows(0)", x.knows(0), 1, 8);
        due("nothing is SAID", x.count(3), 0);
        dueAsked(x, "nothing is BEGUN", x.deed(2, 4), 1, 0);
        lay(x, 0, 0);
        dueFinding(x, "not to an END", x.knows(0), UNLIKE);
        lay(x, 0, 1, 0);
        dueFinding(x, "not from there", x.knows(0), UNLIKE);
        lay(x, 0, 3, 3);
        dueFinding(x, "no WORD", x.knows(0), UNLIKE);
        x.row(0, 9);
        dueFinding(x, "nine", x.knows(0), SIZE);
        x.tear(0);
        dueFinding(x, "a missing ROW", x.knows(0), NOTHING);
        due("knows(6)", x.knows(6), BAD);
        due("STATE ahead of NOTHING", new YearWord().knows(0), STATE);
        x.begin(1);
        lay(x, 0, 0, 2);
        dueAsked(x, "with what is BEGUN", x.knows(0), 1, 0);
        dueAsked(x, "worst() behind knows()", x.worst(), 0, NONE);
        YearWord eight = speaking(EIGHT);
        lay(eight, 5, 0, 1, 2, 3, 4, 5, 6, 7);
        dueAsked(eight, "eight WORDS", eight.knows(5), 1, 8);
        eight.prize(1, 9);
        dueAsked(eight, "eight WORDS, both DEEDS", eight.knows(5), 1, 16);
        YearWord hills = speaking(HILLS);
        lay(hills, 0, 0, 2, 7, 9);
        // Of the three YEARS that are worked in all go to DEED 2.
        dueAsked(hills, "knows(0)", hills.knows(0), 1, 7);
        lay(hills, 0, 0, 2, 10, 8);
        dueAsked(hills, "knows(0)", hills.knows(0), 1, 17);
        lay(hills, 0, 1, 5, 10, 8);
        dueAsked(hills, "knows(0)", hills.knows(0), 1, 17);
        YearWord mute = speaking("nnx010d1309");
        lay(mute, 0, 0);
        dueAsked(mute, "to a MUTE NODE", mute.knows(0), 1, 0);
    }

    private static void p34() {
        YearWord x = speaking(HILLS);
        lay(x, 3, NONE, NONE, NONE);
        dueAsked(x, "[0 2 6] [1 5 6]", x.heard(3), 2, 2);
        lay(x, 3, NONE, NONE);
        dueAsked(x, "[0 3] [1 4]", x.heard(3), 2, 1);
        lay(x, 3, NONE, NONE, NONE, 5);
        dueAsked(x, "four SENTENCES of four WORDS", x.heard(3), 4, 6);
        lay(x, 3, 1, NONE, 1, 5);
        dueAsked(x, "[1 5 7 9]", x.heard(3), 1, 4);
        lay(x, 3, 1, NONE, 1, 4);
        dueAsked(x, "none", x.heard(3), 0, 0);
        x.row(3, 0);
        dueAsked(x, "the empty one", x.heard(3), 0, 0);
        lay(x, 3, 0, 10);
        dueFinding(x, "10 is no SOUND", x.heard(3), UNLIKE);
        lay(x, 3, 0, -1);
        dueFinding(x, "-1 is no SOUND", x.heard(3), UNLIKE);
        x.row(3, 9);
        x.lay(3, 0, 10);
        dueFinding(x, "nine", x.heard(3), SIZE);
        x.tear(3);
        dueFinding(x, "a missing ROW", x.heard(3), NOTHING);
        due("heard(6)", x.heard(6), BAD);
        say(x, 1, 4);
        x.row(3, 0);
        dueAsked(x, "at an END the empty one", x.heard(3), 1, 1);
        due("STATE ahead of NOTHING", new YearWord().heard(0), STATE);
        YearWord mute = speaking("nne1nx010x121x132");
        lay(mute, 0, NONE, NONE);
        dueAsked(mute, "what ends MUTE doesn't count", mute.heard(0), 1, 2);
        x.row(3, 8);
        dueAsked(x, "eight are few enough", x.heard(3), 0, 0);
        YearWord eight = speaking(EIGHT);
        lay(eight, 0, 0, 0, NONE, 1, NONE, 0, 9, 2);
        dueAsked(eight, "eight SOUNDS", eight.heard(0), 1, 8);
        due("eight SOUNDS", eight.first(0, 0), 8);
        dueRow(eight, 0, 0, 1, 2, 3, 4, 5, 6, 7);
        lay(eight, 0, 0, 0, NONE, 2, NONE, 0, 9, 2);
        dueAsked(eight, "eight SOUNDS, a slip", eight.heard(0), 0, 0);
        due("eight SOUNDS, a slip", eight.slips(0), 1);
    }

    private static void p35() {
        YearWord x = speaking(HILLS);
        lay(x, 3, 0, 2, 6);
        due("slips(3): [0 2 6]", x.slips(3), 1);
        lay(x, 3, 1, 2, 6);
        due("slips(3): [0 2 6] [1 5 6]", x.slips(3), 2);
        lay(x, 3, 1, 3, 7);
        due("slips(3): two slips", x.slips(3), 0);
        lay(x, 3, NONE, NONE, 9);
        due("slips(3): what is not heard is no slip", x.slips(3), 2);
        lay(x, 3, 0, 0);
        due("slips(3): [0 3] [1 4]", x.slips(3), 2);
        x.word(0, 1);
        lay(x, 3, 9, 9);
        x.word(0, 1);
        dueAsked(x, "slips() tells nothing by asked()", x.slips(3), 0, 1);
        lay(x, 3, 0, 11);
        dueFinding(x, "11 is no SOUND", x.slips(3), UNLIKE);
        x.row(3, 9);
        dueFinding(x, "nine", x.slips(3), SIZE);
        x.tear(3);
        dueFinding(x, "a missing ROW", x.slips(3), NOTHING);
        due("slips(6)", x.slips(6), BAD);
        due("STATE ahead of NOTHING", new YearWord().slips(0), STATE);
    }

    private static void p36() {
        YearWord x = speaking(HILLS);
        lay(x, 3, NONE, NONE, NONE, 5);
        due("first(3, 4)", x.first(3, 4), 4);
        dueRow(x, 4, 0, 2, 7, 9);
        due("the same ROW", x.first(3, 3), 4);
        dueRow(x, 3, 0, 2, 7, 9);
        lay(x, 3, 1, NONE, NONE);
        lay(x, 4, 7, 7, 7, 7, 7, 7);
        due("first(3, 4)", x.first(3, 4), 3);
        dueRow(x, 4, 1, 5, 6);
        lay(x, 3, 1, 1);
        due("none", x.first(3, 4), NONE);
        dueRow(x, 4, 1, 5, 6);
        due("none, to a missing ROW", x.first(3, 5), NONE);
        due("count(6)", x.count(6), 2);
        due("first(3, 6)", x.first(3, 6), BAD);
        due("first(3, -1)", x.first(3, -1), BAD);
        due("first(6, 3)", x.first(6, 3), BAD);
        dueFinding(x, "a missing ROW", x.first(5, 3), NOTHING);
        lay(x, 3, 0, 10);
        dueFinding(x, "10 is no SOUND", x.first(3, 4), UNLIKE);
        x.row(3, 9);
        dueFinding(x, "nine", x.first(3, 4), SIZE);
        due("BAD ahead of STATE", new YearWord().first(0, 6), BAD);
        due("STATE ahead of NOTHING", new YearWord().first(0, 1), STATE);
        say(x, 1, 4);
        x.row(3, 0);
        due("the empty one", x.first(3, 5), 0);
        dueRow(x, 5);
    }

    private static void p37() {
        YearWord x = speaking(HILLS);
        lay(x, 3, 0, 3);
        dueAsked(x, "two WORDS mean 0", x.least(3), 0, 0);
        lay(x, 3, 1, 5, 7, 9);
        dueAsked(x, "the third SOUND tells", x.least(3), 1, 4);
        lay(x, 3, 0, 2, 10, 8);
        dueAsked(x, "the third SOUND tells", x.least(3), 1, 4);
        YearWord y = speaking("nnne0e1x010x021x130x141x240x231x242");
        // [0 2] 0, [0 3] 1, [1 4] 1, [1 5] 0, [1 6] 1.
        lay(y, 0, 0, 2);
        dueAsked(y, "both SOUNDS", y.least(0), 2, 3);
        lay(y, 0, 1, 6);
        dueAsked(y, "the second one", y.least(0), 1, 2);
        lay(y, 0, 0);
        dueFinding(y, "not to an END", y.least(0), UNLIKE);
        lay(y, 0, 1, 2);
        dueFinding(y, "not from there", y.least(0), UNLIKE);
        lay(y, 0, 0, 7);
        dueFinding(y, "no WORD", y.least(0), UNLIKE);
        y.row(0, 9);
        dueFinding(y, "nine", y.least(0), SIZE);
        y.tear(0);
        dueFinding(y, "a missing ROW", y.least(0), NOTHING);
        due("least(6)", y.least(6), BAD);
        due("STATE ahead of NOTHING", new YearWord().least(0), STATE);
        YearWord either = speaking("nnne0e1x010x021x130x241");
        lay(either, 0, 0, 2);
        dueAsked(either, "either place, the least", either.least(0), 1, 1);
        YearWord eight = speaking(EIGHT);
        lay(eight, 0, 0, 1, 2, 3, 4, 5, 6, 7);
        dueAsked(eight, "eight WORDS", eight.least(0), 0, 0);
        lay(eight, 0, 0, 1, 2, 3, 4, 5, 6, 9);
        dueFinding(eight, "no eighth WORD", eight.least(0), UNLIKE);
        YearWord mute = speaking("nne0nx010x121x132");
        lay(mute, 0, 0, 2);
        dueFinding(mute, "to a MUTE NODE", mute.least(0), UNLIKE);
        lay(mute, 0, 0, 1);
        dueAsked(mute, "MUTE is no MEANING", mute.least(0), 0, 0);
    }

    private static void p38() {
        YearWord x = speaking(HILLS);
        // From seed 1 come 48271 and 182605794: the second of two, then the first of two.
        due("lots(8, 1)", x.lots(8, 1), 2);
        x.told(0);
        dueRow(x, 0, 1, 4);
        due("lots(1, 1) when it is OVER", x.lots(1, 1), 0);
        x.undo(0);
        due("lots(1, 1)", x.lots(1, 1), 1);
        x.told(0);
        dueRow(x, 0, 1);
        x.undo(0);
        // From the greatest seed come 2147435376 and 1964877853.
        due("lots(8, 2147483646)", x.lots(8, 2147483646), 2);
        x.told(0);
        dueRow(x, 0, 0, 3);
        x.undo(1);
        say(x, 2);
        x.begin(0);
        // 48271 modulo 3 is 1.
        due("lots(2, 1)", x.lots(2, 1), 2);
        x.told(0);
        dueRow(x, 0, 0, 2, 7, 9);
        dueAsked(x, "they are truly SAID", x.deed(0, 4), 1, 2);
        x.undo(2);
        dueAsked(x, "and undone", x.deed(0, 4), 1, 1);
        due("lots(0, 1)", x.lots(0, 1), BAD);
        due("lots(9, 1)", x.lots(9, 1), BAD);
        due("lots(1, 0)", x.lots(1, 0), BAD);
        due("lots(1, -1)", x.lots(1, -1), BAD);
        due("lots(1, 2147483647)", x.lots(1, 2147483647), BAD);
        due("STATE", new YearWord().lots(8, 1), STATE);
        YearWord mute = speaking("nnx010");
        due("till it is MUTE", mute.lots(8, 5), 1);
    }

    private static void p39() {
        YearWord x = new YearWord();
        due("asked() before", x.asked(), 0);
        lay(x, 0, 5);
        x.at(0, 0);
        due("at()", x.asked(), 5);
        x.at(0, 1);
        x.at(1, 0);
        x.at(9, 0);
        x.lay(0, 1, 8);
        x.mean(1);
        due("what is refused tells nothing", x.asked(), 5);
        x.row(1, 3);
        x.text(3, 2);
        x.put(3, 0, 2);
        x.fault(3);
        x.speech(3);
        x.copy(0, 0, 1, 0, 1);
        x.tear(1);
        due("nor do row(), text(), put(), fault(), speech(), copy(), tear()", x.asked(), 5);
        write(x, 0, HILLS);
        x.speech(0);
        x.mark(4, 1);
        x.mark(6, 4);
        x.prize(0, 4);
        x.begin(0);
        x.say(0);
        x.keep(0);
        x.undo(0);
        x.on(0);
        x.told(2);
        x.odds(1);
        x.known();
        x.lots(1, 1);
        x.count(0);
        x.findings(1);
        x.finding();
        x.digest();
        x.upper();
        x.lower();
        due("nor do the calls that tell nothing by it", x.asked(), 5);
        x.just(9);
        x.node(9, 0);
        x.word(11, 0);
        x.deed(3, 0);
        x.brings(9);
        x.knows(9);
        x.least(9);
        x.heard(9);
        x.slips(9);
        x.first(9, 0);
        due("nor what is refused", x.asked(), 5);
        x.just(8);
        due("just() tells NONE", x.asked(), NONE);
        x.here();
        due("here()", x.asked(), 2);
        x.over();
        due("over(): WORTH 4 less COST 2", x.asked(), 2);
    }

    private static void p40() {
        YearWord x = speaking("ne0nx010x021x022d1900");
        due("upper() before", x.upper(), 0);
        x.odds(0);
        due("upper()", x.upper(), 1);
        x.odds(1);
        due("upper() of no chance", x.upper(), 0);
        x.begin(0);
        x.hopes();
        due("upper() of a mean below 0", x.upper(), -9);
        x.odds(6);
        x.worst();
        x.known();
        due("upper() stays", x.upper(), -9);
    }

    private static void p41() {
        YearWord x = speaking("ne0nx010x021x022d1900");
        due("lower() before", x.lower(), 1);
        x.odds(0);
        due("lower()", x.lower(), 3);
        x.odds(7);
        due("lower() stays", x.lower(), 3);
        x.odds(1);
        due("lower() of no chance", x.lower(), 1);
        x.prize(0, 5);
        x.begin(0);
        x.hopes();
        due("upper(): 5 by 3 less 9", x.upper(), -22);
        due("lower()", x.lower(), 3);
    }

    private static void p42() {
        YearWord x = speaking(HILLS);
        x.text(2, 0);
        x.row(0, 0);
        x.row(4, 4);
        x.row(5, 0);
        x.tear(0);
        x.begin(0);
        say(x, 0);
        x.keep(2);
        x.begin(1);
        say(x, 2, 10);
        int[] counts = {9, 11, 3, 3, 1, 3, 2, 2, 1};
        for (int what = 0; what <= 8; what++) due("count(" + what + ")", x.count(what), counts[what]);
        due("count(9)", x.count(9), BAD);
        due("count(-1)", x.count(-1), BAD);
    }

    private static void p43() {
        YearWord x = new YearWord();
        due("finding() before any", x.finding(), 0);
        x.at(6, 0);
        due("BAD is no FINDING", x.finding(), 0);
        x.at(0, 0);
        due("finding()", x.finding(), NOTHING);
        x.row(0, 0);
        due("finding() stays", x.finding(), NOTHING);
        x.at(0, 0);
        due("finding()", x.finding(), BEYOND);
        x.mean(0);
        due("finding()", x.finding(), NOUGHT);
        x.row(0, -1);
        due("finding()", x.finding(), SIZE);
        write(x, 0, "ne0x010");
        x.speech(0);
        x.mark(0, 1);
        due("finding()", x.finding(), UNLIKE);
        x.say(1);
        x.begin(0);
        x.undo(3);
        due("finding() stays", x.finding(), UNLIKE);
    }

    private static void p44() {
        YearWord x = new YearWord();
        for (int f = 1; f <= 5; f++) due("findings(" + f + ")", x.findings(f), 0);
        x.at(0, 0);
        x.tear(1);
        x.on(2);
        x.row(0, 0);
        x.at(0, 0);
        x.at(0, -1);
        x.mean(0);
        x.row(0, -1);
        x.text(0, -1);
        x.copy(0, 0, 0, 0, -1);
        x.copy(0, 0, 0, 0, -2);
        write(x, 0, "ne0x010");
        x.speech(0);
        x.mark(0, 2);
        lay(x, 0, 1);
        x.brings(0);
        x.knows(0);
        x.least(0);
        lay(x, 0, 77);
        x.heard(0);
        int[] many = {3, 2, 5, 1, 4};
        for (int f = 1; f <= 5; f++) due("findings(" + f + ")", x.findings(f), many[f - 1]);
        due("findings(0)", x.findings(0), BAD);
        due("findings(6)", x.findings(6), BAD);
    }

    private static long mixed(int... values) {
        long h = 17;
        for (int v : values) h = 31 * h + v;
        return h;
    }

    private static void p45() {
        YearWord x = new YearWord();
        due("digest() of a new object", x.digest(), mixed(0, 0, 0, 0, 0, 0, 0, 0, 0, -1, -1, -1, -1, -1, -1, -1, -1, -1, -1, -1, -1, -1));
        write(x, 3, "no5x010x011d2153");
        x.speech(3);
        x.begin(0);
        x.keep(1);
        x.say(1);
        x.keep(2);
        lay(x, 1, -7, 8);
        x.row(4, 0);
        x.text(0, 1);
        x.put(0, 0, 200);
        x.text(1, 0);
        due("digest()", x.digest(), mixed(
            2, 2, 1, 1, 0, 1, 2, 3, 2,
            0, 3, 2, 32, 4, 0, 1, 32,
            0, 1, 0, 0, 1, 1,
            2, 1, 5, 3, 1,
            1,
            -1, 0, 1,
            -1, 2, -7, 8, -1, -1, 0, -1,
            1, -56, 0, -1,
            16, 'n', 'o', '5', 'x', '0', '1', '0', 'x', '0', '1', '1', 'd', '2', '1', '5', '3'));
        long before = x.digest();
        x.at(1, 0);
        x.worst();
        x.row(6, 0);
        x.tear(5);
        due("what is asked or refused changes nothing", x.digest(), before);
    }
}
