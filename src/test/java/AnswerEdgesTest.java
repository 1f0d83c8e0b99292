import java.util.Arrays;

/** Boundary cases of promises 39 to 45: what is told. */
public final class AnswerEdgesTest {
    private static final Edges E = new Edges();

    private static final String EIGHT = "nnnnnnnne0x010x120x230x340x450x560x670x780";
    private static final String FOURTEEN = "nnnnn" + "x010x011x012x013" + "x120x121x122x123" + "x230x231x232x233" + "x340x341";

    /** Calls that tell nothing by asked(), with what is due of them in a RICH object. */
    private static final String[] TELL_NOTHING = {
        "row(5, 3) = 3", "tear(0) = 1", "copy(1, 0, 0, 0, 2) = 1", "text(3, 5) = 5", "put(1, 0, 65) = 1110", "fault(1) = 2", "speech(0) = 9",
        "mark(4, 1) = 0", "mark(6, 4) = 1", "mark(5, 5) = 3", "prize(0, 1) = 5", "say(6) = 6", "undo(1) = 1", "told(5) = 2", "keep(2) = 2", "on(0) = 0",
        "known() = 1", "slips(2) = 2", "first(2, 5) = 2", "lots(1, 1) = 1", "upper() = 2", "lower() = 3", "count(0) = 9", "finding() = 4", "findings(4) = 1",
    };
    /** Calls that do, with what they tell there. */
    private static final String[] TELL = {
        "lay(0, 0, 1) = 1 asked 5", "at(0, 0) = 1 asked 5", "mean(1) = 1 asked 9", "node(5, 0) = 1 asked 5", "word(9, 2) = 1 asked 5", "deed(2, 3) = 1 asked 6",
        "here() = 3 asked 2", "over() = 0 asked 0", "years() = 1 asked 2", "just(1) = 1 asked 6", "just(8) = 0 asked NONE", "tell() = 7 asked 1",
        "worst() = -1 asked NONE", "brings(1) = 1 asked 17", "knows(1) = 1 asked 17", "heard(2) = 1 asked 2", "least(1) = 1 asked 1",
    };
    /** Calls that are refused there, of those that would tell something by asked(). */
    private static final String[] REFUSED = {
        "lay(6, 0, 1) = BAD", "lay(5, 0, 1) = NOTHING", "lay(3, 0, 1) = BEYOND", "at(6, 0) = BAD", "at(5, 0) = NOTHING", "at(3, 0) = BEYOND",
        "mean(6) = BAD", "mean(5) = NOTHING", "mean(3) = NOUGHT", "node(9, 0) = BAD", "word(11, 0) = BAD", "deed(3, 0) = BAD", "just(9) = BAD",
        "brings(6) = BAD", "brings(5) = NOTHING", "brings(4) = SIZE", "brings(3) = UNLIKE", "knows(6) = BAD", "knows(5) = NOTHING", "knows(4) = SIZE", "knows(3) = UNLIKE",
        "heard(6) = BAD", "heard(5) = NOTHING", "heard(4) = SIZE", "least(6) = BAD", "least(5) = NOTHING", "least(4) = SIZE", "least(3) = UNLIKE",
    };

    public static void main(String[] args) {
        asked();
        upper();
        lower();
        count();
        finding();
        findings();
        digest();
        digestOfASpeech();
        E.end(39, 45);
    }

    private static void asked() {
        E.promise(39, "asked");
        E.edge("0 before", "asked() = 0");
        for (String call : TELL) E.rich("it tells: " + call, call);
        E.rich("it tells: hopes()", "hopes() = 1 asked NONE by 11/1");
        for (String call : TELL_NOTHING) E.rich("it stays: " + call, call, "asked() = 7");
        E.rich("it stays: begin()", "on(0) = 0", "begin(2) = 3", "asked() = 7");
        E.rich("it stays: odds()", "odds(0) = 1 asked 7 by 0/1");
        E.edge("it stays: digest()", "ROW 0 6", "at(0, 0) = 1", "DIGEST 0*6 1 0 0 -1*3 1 6 -1*5 -1*4", "asked() = 6");
        for (String call : REFUSED) E.rich("it stays, refused: " + call, call, "asked() = 7");
        E.rich("it stays, refused: heard() as UNLIKE", "ROW 2 10", "at(0, 39) = 1", "heard(2) = UNLIKE", "asked() = 7");
        for (String call : new String[] {"here", "over", "years", "tell", "worst", "hopes"}) {
            E.edge("it stays, without NODES: " + call + "()", "ROW 0 6", "at(0, 0) = 1", call + "() = STATE", "asked() = 6");
        }
        for (String call : new String[] {"just", "brings", "knows", "heard", "least"}) {
            E.edge("it stays, without NODES: " + call + "(0)", "ROW 0 6", "at(0, 0) = 1", call + "(0) = STATE", "asked() = 6");
        }
        E.edge("it stays, NONE: years()", "SPEECH nnx010", "ROW 0 6", "at(0, 0) = 1", "years() = NONE asked 6");
        E.edge("it stays, NONE: tell()", "SPEECH e0n", "ROW 0 6", "at(0, 0) = 1", "tell() = NONE asked 6");
        E.edge("it stays, NONE: first()", "SPEECH ne0x010", "ROW 0 6", "at(0, 0) = 1", "first(0, 0) = NONE asked 6");
        E.edge("the greatest int and the least", "ROW 0 MAX MIN", "at(0, 0) = 1 asked MAX", "at(0, 1) = 1 asked MIN");
        E.rich("the latest one", "at(0, 0) = 1 asked 5", "here() = 3 asked 2", "at(0, 39) = 1 asked 7");
        E.rich("as often as wanted", "asked() = 7", "asked() = 7");
    }

    private static void upper() {
        E.promise(40, "upper");
        E.edge("0 before", "upper() = 0");
        E.edge("0 before, though there is a SPEECH", "SPEECH ne0x010", "upper() = 0");
        E.rich("of odds()", "odds(2) = 1", "upper() = 1");
        E.rich("of odds() that are none", "odds(5) = 1", "upper() = 0");
        E.edge("of odds() that are sure", "SPEECH ne0x010", "odds(0) = 1", "upper() = 1");
        E.edge("of hopes()", "SPEECH ne0e1x010x021d1009", "hopes() = 1", "upper() = 9");
        E.edge("of hopes() below 0", "SPEECH ne0e1x010x021d1901", "begin(0) = 1", "hopes() = 1", "upper() = -17");
        E.edge("of hopes() of 0", "SPEECH ne0x010", "hopes() = 1", "upper() = 0");
        E.edge("the most", "SPEECH nnnno0x010x120x230x340d1009d1009d1009d1009", "hopes() = 1", "upper() = 72", "lower() = 1");
        E.edge("the least", "SPEECH nnnne0x010x120x230x340d1919d1919d1919d1919", "begin(0) = 1", "SAY 0", "begin(1) = 1", "SAY 1", "begin(2) = 1", "SAY 2", "begin(3) = 1",
            "hopes() = 1", "upper() = -36", "lower() = 1");
        E.rich("it stays, refused: odds()", "odds(6) = BAD", "upper() = 2");
        E.edge("it stays, refused without NODES", "odds(0) = STATE", "hopes() = STATE", "upper() = 0");
        for (String call : TELL_NOTHING) E.rich("it stays: " + call, call, "upper() = 2");
        for (String call : TELL) E.rich("it stays: " + call, call, "upper() = 2");
    }

    private static void lower() {
        E.promise(41, "lower");
        E.edge("1 before", "lower() = 1");
        E.edge("1 before, though there is a SPEECH", "SPEECH ne0e1x010x021", "lower() = 1");
        E.rich("of odds()", "odds(2) = 1", "lower() = 3");
        E.rich("1 of odds() that are none", "odds(5) = 1", "lower() = 1");
        E.edge("1 of odds() that are sure", "SPEECH ne0x010x011", "odds(0) = 1", "lower() = 1");
        E.edge("the greatest", "SPEECH nnnnne0e1x010x051x052x120x151x152x230x251x252x340x351x352x460x451", "odds(1) = 1", "lower() = 162");
        E.edge("of hopes()", "SPEECH ne0e1x010x021d1009", "hopes() = 1", "lower() = 2");
        E.edge("above 0 of hopes() below 0", "SPEECH ne0e1x010x021d1901", "begin(0) = 1", "hopes() = 1", "lower() = 2");
        E.edge("1 of hopes() of 0", "SPEECH ne0e1x010x021d1919", "hopes() = 1", "upper() = 0", "lower() = 1");
        E.edge("1 of a whole mean", "SPEECH ne0e1x010x021d1208", "hopes() = 1", "upper() = 2", "lower() = 1");
        E.rich("it stays, refused: odds()", "odds(6) = BAD", "lower() = 3");
        E.edge("it stays, refused without NODES", "odds(0) = STATE", "hopes() = STATE", "lower() = 1");
        for (String call : TELL_NOTHING) E.rich("it stays: " + call, call, "lower() = 3");
        for (String call : TELL) E.rich("it stays: " + call, call, "lower() = 3");
    }

    private static void count() {
        E.promise(42, "count");
        E.each("count(-1) = BAD", "count(9) = BAD", "count(MIN) = BAD", "count(MAX) = BAD");
        for (int what = 0; what <= 8; what++) E.edge("none of " + what + " at first", "count(" + what + ") = 0");
        int[] rich = {9, 11, 3, 2, 0, 3, 5, 3, 2};
        for (int what = 0; what <= 8; what++) E.rich("so many of " + what, "count(" + what + ") = " + rich[what]);
        E.edge("the fewest NODES", "SPEECH nn", "count(0) = 2", "count(1) = 0", "count(2) = 0");
        E.edge("the most NODES", "SPEECH nnnnnnnnn", "count(0) = 9");
        E.edge("the most WORDS", "SPEECH " + FOURTEEN, "count(1) = 14");
        E.edge("the most DEEDS", "SPEECH nnd1000d1000d1000d1000", "count(2) = 4");
        E.edge("the most WORDS SAID", "SPEECH " + EIGHT, "SAY 0 1 2 3 4 5 6 7", "count(3) = 8");
        E.edge("WORDS by lots are SAID", "SPEECH " + EIGHT, "lots(8, 1) = 8", "count(3) = 8", "undo(3) = 5", "count(3) = 3");
        E.edge("the most DEEDS that are DONE", "SPEECH " + EIGHT + "d1000d1000d1000d1000", "begin(0) = 1", "SAY 0", "begin(1) = 1", "SAY 1", "begin(2) = 1", "SAY 2", "begin(3) = 1",
            "count(4) = 3", "SAY 3", "count(4) = 4");
        E.edge("BEGUN is not DONE", "SPEECH nnx010d1000", "begin(0) = 1", "count(4) = 0");
        E.edge("lost is not DONE", "SPEECH lnx010d1000", "begin(0) = 1", "SAY 0", "count(4) = 0");
        E.edge("no ENDS", "SPEECH ncwl", "count(5) = 0");
        E.edge("ENDS alone, OATHS too", "SPEECH e0e1e2e3e4e5o0o1o2", "count(5) = 9");
        E.edge("an empty ROW is there", "row(0, 0) = 0", "count(6) = 1", "tear(0) = 1", "count(6) = 0");
        E.edge("all ROWS", "row(0, 0) = 0", "row(1, 0) = 0", "row(2, 0) = 0", "row(3, 0) = 0", "row(4, 0) = 0", "row(5, 40) = 40", "count(6) = 6");
        E.edge("the same ROW anew is one", "row(0, 1) = 1", "row(0, 2) = 2", "count(6) = 1");
        E.edge("an empty TEXT is there", "text(0, 0) = 0", "count(7) = 1");
        E.edge("all TEXTS", "text(0, 0) = 0", "text(1, 0) = 0", "text(2, 0) = 0", "text(3, 80) = 80", "count(7) = 4");
        E.edge("the same TEXT anew is one", "text(0, 1) = 1", "text(0, 2) = 2", "count(7) = 1");
        E.edge("all kept YEARS", "SPEECH nn", "keep(0) = 0", "keep(1) = 0", "keep(2) = 0", "count(8) = 3", "keep(1) = 0", "count(8) = 3", "on(1) = 0", "count(8) = 3", "speech(0) = 2", "count(8) = 0");
    }

    private static void finding() {
        E.promise(43, "finding");
        E.edge("0 before any", "finding() = 0");
        E.edge("BAD is none", "row(6, 0) = BAD", "row(0, 41) = BAD", "finding() = 0");
        E.edge("STATE is none", "here() = STATE", "TEXT 0 z", "speech(0) = STATE", "finding() = 0");
        E.edge("NONE is none", "SPEECH nn", "years() = NONE", "tell() = NONE", "fault(0) = NONE", "finding() = 0");
        E.edge("1 NOTHING: a ROW", "at(0, 0) = NOTHING", "finding() = 1");
        E.edge("1 NOTHING: a TEXT", "fault(0) = NOTHING", "finding() = 1");
        E.edge("1 NOTHING: kept YEARS", "on(0) = NOTHING", "finding() = 1");
        E.edge("2 BEYOND", "row(0, 0) = 0", "at(0, 0) = BEYOND", "finding() = 2");
        E.edge("3 UNLIKE: a NODE of another KIND", "SPEECH nn", "mark(0, 1) = UNLIKE", "finding() = 3");
        E.edge("3 UNLIKE: a number that is none", "SPEECH nn", "ROW 0 10", "heard(0) = UNLIKE", "finding() = 3");
        E.edge("4 NOUGHT", "row(0, 0) = 0", "mean(0) = NOUGHT", "finding() = 4");
        E.edge("5 SIZE: fewer than none", "row(0, -1) = SIZE", "finding() = 5");
        E.edge("5 SIZE: too many", "SPEECH nn", "row(0, 9) = 9", "heard(0) = SIZE", "finding() = 5");
        E.rich("BAD leaves it", "row(6, 0) = BAD", "finding() = 4");
        E.rich("STATE leaves it", "say(0) = STATE", "finding() = 4");
        E.rich("what is not refused leaves it", "at(0, 0) = 1", "worst() = -1", "say(6) = 6", "finding() = 4");
        E.rich("the latest one", "at(5, 0) = NOTHING", "at(3, 0) = BEYOND", "finding() = 2", "on(2) = NOTHING", "finding() = 1");
        E.rich("a new SPEECH leaves it", "speech(0) = 9", "finding() = 4");
        E.rich("as often as wanted", "finding() = 4", "finding() = 4", "findings(4) = 1");
    }

    private static void findings() {
        E.promise(44, "findings");
        E.each("findings(0) = BAD", "findings(6) = BAD", "findings(-1) = BAD", "findings(MIN) = BAD", "findings(MAX) = BAD");
        for (int f = 1; f <= 5; f++) E.edge("none of " + f + " at first", "findings(" + f + ") = 0");
        E.edge("one NOTHING", "tear(0) = NOTHING", "findings(1) = 1", "findings(2) = 0", "findings(3) = 0", "findings(4) = 0", "findings(5) = 0");
        E.edge("one BEYOND", "row(0, 0) = 0", "lay(0, 0, 0) = BEYOND", "findings(1) = 0", "findings(2) = 1", "findings(3) = 0", "findings(4) = 0", "findings(5) = 0");
        E.edge("one UNLIKE", "SPEECH nn", "mark(0, 1) = UNLIKE", "findings(1) = 0", "findings(2) = 0", "findings(3) = 1", "findings(4) = 0", "findings(5) = 0");
        E.edge("one NOUGHT", "row(0, 0) = 0", "mean(0) = NOUGHT", "findings(1) = 0", "findings(2) = 0", "findings(3) = 0", "findings(4) = 1", "findings(5) = 0");
        E.edge("one SIZE", "text(0, -1) = SIZE", "findings(1) = 0", "findings(2) = 0", "findings(3) = 0", "findings(4) = 0", "findings(5) = 1");
        E.edge("three of one", "at(0, 0) = NOTHING", "at(0, 0) = NOTHING", "mean(1) = NOTHING", "findings(1) = 3");
        E.edge("one of each", "SPEECH nn", "at(0, 0) = NOTHING", "row(0, 0) = 0", "at(0, 0) = BEYOND", "mark(0, 2) = UNLIKE", "mean(0) = NOUGHT", "row(0, -1) = SIZE",
            "findings(1) = 1", "findings(2) = 1", "findings(3) = 1", "findings(4) = 1", "findings(5) = 1");
        E.edge("BAD, STATE, NONE are none", "row(6, 0) = BAD", "here() = STATE", "TEXT 0 nn", "fault(0) = NONE",
            "findings(1) = 0", "findings(2) = 0", "findings(3) = 0", "findings(4) = 0", "findings(5) = 0");
        E.edge("findings() itself is none", "findings(0) = BAD", "findings(6) = BAD", "finding() = 0");
        String[] most = new String[512];
        Arrays.fill(most, "at(0, 0) = -3");
        most[511] = "findings(1) = 511";
        E.edge("as many as there can be, by the 512th call", most);
        E.rich("a new SPEECH leaves them", "speech(0) = 9", "findings(4) = 1");
    }

    private static void digest() {
        E.promise(45, "digest");
        E.edge("of a new object", "DIGEST 0*9 -1*3 -1*6 -1*4");
        E.edge("an empty ROW is not a missing one", "row(0, 0) = 0", "DIGEST 0*6 1 0 0 -1*3 0 -1*5 -1*4");
        E.edge("the last ROW", "ROW 5 7 8", "DIGEST 0*6 1 0 0 -1*3 -1*5 2 7 8 -1*4");
        E.edge("a full ROW", "ROW 0 3*40", "DIGEST 0*6 1 0 0 -1*3 40 3*40 -1*5 -1*4");
        E.edge("the least int and the greatest", "ROW 0 MIN MAX", "DIGEST 0*6 1 0 0 -1*3 2 MIN MAX -1*5 -1*4");
        E.edge("a ROW torn again", "ROW 0 7 8", "tear(0) = 1", "DIGEST 0*9 -1*3 -1*6 -1*4");
        E.edge("a ROW made smaller", "ROW 0 7 8 9", "row(0, 1) = 1", "DIGEST 0*6 1 0 0 -1*3 1 0 -1*5 -1*4");
        E.edge("an empty TEXT is not a missing one", "text(0, 0) = 0", "DIGEST 0*7 1 0 -1*3 -1*6 0 -1*3");
        E.edge("the last TEXT, a full one", "text(3, 80) = 80", "DIGEST 0*7 1 0 -1*3 -1*6 -1*3 80 32*80");
        E.edge("the least byte and the greatest", "text(0, 2) = 2", "put(0, 0, 128) = 1032", "put(0, 1, 127) = 1032", "DIGEST 0*7 1 0 -1*3 -1*6 2 -128 127 -1*3");
        E.edge("all ROWS and TEXTS", "ROW 0 1", "ROW 1 2", "ROW 2 3", "ROW 3 4", "ROW 4 5", "ROW 5 6", "TEXT 0 a", "TEXT 1 b", "TEXT 2 c", "TEXT 3 d",
            "DIGEST 0*6 6 4 0 -1*3 1 1 1 2 1 3 1 4 1 5 1 6 1 97 1 98 1 99 1 100");
        E.edge("what is told or found doesn't count", "ROW 0 7 8", "mean(0) = 1 asked 7", "mean(1) = NOTHING", "DIGEST 0*6 1 0 0 -1*3 2 7 8 -1*5 -1*4");
    }

    private static void digestOfASpeech() {
        String rest = " -1*6 0 -1*3";
        E.edge("the fewest NODES", "SPEECH nn", "text(0, 0) = 0", "DIGEST 2 0*6 1 0 0*4 0*4 -1*3" + rest);
        E.edge("an OATH, WORDS, a DEED", "SPEECH no5x010x019d2153", "text(0, 0) = 0", "DIGEST 2 2 1 0 0 1 0 1 0 0 3 2 32 4 0 1 32 0 1 0 0 1 9 2 1 5 3 0 -1*3" + rest);
        E.edge("each KIND", "SPEECH ne0cwo1l", "text(0, 0) = 0", "DIGEST 6 0 0 0 0 2 0 1 0 0 0 0 0 1 0 1 1 2 0 0 0 3 0 0 0 4 0 1 2 5 0 0 0 -1*3" + rest);
        E.edge("DEEDS in each way", "SPEECH nlnnx010x120x230d1000d1111d1222d1333", "text(0, 0) = 0", "begin(0) = 1", "SAY 0", "begin(1) = 1", "SAY 1", "begin(2) = 1",
            "DIGEST 4 3 4 2 1 0 0 1 0  0 1 0 0  5 2 0 0  0 4 0 0  0 0 0 0  0 1 0  1 2 0  2 3 0  1 0 0 0 2  1 1 1 1 3  1 2 2 2 1  1 3 3 3 0  0 1  -1*3" + rest);
        E.edge("a WORTH by prize()", "SPEECH nnd1000", "text(0, 0) = 0", "prize(0, 9) = 0", "DIGEST 2 0 1 0*4 1 0 0*8 1 0 0 9 0 -1*3" + rest);
        E.edge("WORDS SAID, kept YEARS", "SPEECH nnx010x011", "text(0, 0) = 0", "keep(0) = 0", "SAY 1", "keep(2) = 1", "DIGEST 2 2 0 1 0 0 0 1 2 0 3 0 0 0*4 0 1 0 0 1 1 1 0 -1 1" + rest);
        E.edge("WORDS undone", "SPEECH nnx010", "text(0, 0) = 0", "SAY 0", "undo(0) = 1", "DIGEST 2 1 0*5 1 0 0 1 0 0 0*4 0 1 0 -1*3" + rest);
        E.edge("eight WORDS SAID and kept", "SPEECH nnnnnnnnnx010x120x230x340x450x560x670x780", "text(0, 0) = 0", "SAY 0 1 2 3 4 5 6 7", "keep(1) = 8",
            "DIGEST 9 8 0 8 0 0 0 1 1  0 1 0 0  0 2 0 0  0 4 0 0  0 8 0 0  0 16 0 0  0 32 0 0  0 64 0 0  0 128 0 0  0*4 "
            + "0 1 0  1 2 0  2 3 0  3 4 0  4 5 0  5 6 0  6 7 0  7 8 0  0 1 2 3 4 5 6 7  -1 8 -1" + rest);
        E.edge("what is asked doesn't change it", "SPEECH ne0x010d1009", "text(0, 0) = 0", "worst() = 9", "hopes() = 1", "odds(0) = 1", "known() = 0", "years() = 1",
            "DIGEST 2 1 1 0 0 1 0 1 0 0 1 1 1 1 0 1 1 0 1 0 1 0 0 9 0 -1*3" + rest);
    }
}
