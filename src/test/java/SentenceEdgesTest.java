/** Boundary cases of promises 32 to 38: what a SENTENCE brings, WORDS heard, WORDS by lots. */
public final class SentenceEdgesTest {
    private static final Edges E = new Edges();

    /** Eight WORDS, as many as can be SAID: each leads to the next of nine NODES. */
    private static final String EIGHT = "nnnnnnnne0x010x121x232x343x454x565x676x787";
    private static final String EIGHT_WORDS = "ROW 0 0 1 2 3 4 5 6 7";
    /** As many SENTENCES as there can be, all of five WORDS. */
    private static final String MANY = "nnnnne0" + "x010x011x012" + "x120x121x122" + "x230x231x232" + "x340x341x342" + "x450x451";
    /** Three WORDS each, of SOUNDS 0 and 1; an even number of ones means 0, an odd one 1. */
    private static final String PARITY = "nnnnne0e1x010x021x130x141x240x231x350x361x460x451";

    public static void main(String[] args) {
        E.promise(32, "brings");
        refusedAsWords("brings");
        brings();
        E.promise(33, "knows");
        refusedAsWords("knows");
        knows();
        E.promise(34, "heard");
        refusedAsSounds("heard(", ")");
        heard();
        E.promise(35, "slips");
        refusedAsSounds("slips(", ")");
        slips();
        E.promise(36, "first");
        refusedAsSounds("first(", ", 3)");
        first();
        E.promise(37, "least");
        refusedAsWords("least");
        least();
        lots();
        lotsAsDue();
        E.end(32, 38);
    }

    /** What brings(), knows(), least() refuse alike: BAD; STATE; NOTHING; SIZE; UNLIKE. */
    private static void refusedAsWords(String call) {
        for (String r : new String[] {"-1", "6", "MIN", "MAX"}) E.each(call + "(" + r + ") = BAD");
        E.each(call + "(5) = NOTHING", call + "(0) = SIZE", call + "(3) = UNLIKE");
        E.rich("nine are too many, ahead of UNLIKE", call + "(4) = SIZE");
        E.edge("no NODES, ahead of NOTHING", call + "(0) = STATE");
        E.edge("no NODES, ahead of SIZE", "ROW 0 0*9", call + "(0) = STATE");
        E.edge("no NODES, ahead of UNLIKE", "ROW 0 -1", call + "(0) = STATE", "row(0, 0) = 0", call + "(0) = STATE");
        E.edge("BAD ahead of STATE", call + "(6) = BAD", call + "(-1) = BAD");
        E.edge("eight WORDS are few enough", "SPEECH " + EIGHT, EIGHT_WORDS, call + "(0) = " + (call.equals("least") ? 0 : 1) + " asked 0");
        E.edge("eight that are no SENTENCE", "SPEECH " + EIGHT, "ROW 0 0*8", call + "(0) = UNLIKE");
        E.edge("eight, the last is no WORD", "SPEECH " + EIGHT, "ROW 0 0 1 2 3 4 5 6 8", call + "(0) = UNLIKE");
        E.edge("nine, the first eight a SENTENCE", "SPEECH " + EIGHT, "ROW 0 0 1 2 3 4 5 6 7 7", call + "(0) = SIZE");
        for (String k : new String[] {"-1", "-9", "11", "MIN", "MAX"}) {
            E.rich("no WORD at first: " + k, "ROW 1 " + k, call + "(1) = UNLIKE");
            E.rich("no WORD at last: " + k, "ROW 1 10 " + k, call + "(1) = UNLIKE");
        }
        E.rich("not from here", "ROW 1 0 3", call + "(1) = UNLIKE");
        E.rich("not from where the one ahead led to", "ROW 1 7 8", call + "(1) = UNLIKE");
        E.rich("to no END", "ROW 1 10", call + "(1) = UNLIKE");
        E.rich("behind the END", "ROW 1 10 8 8", call + "(1) = UNLIKE");
        E.rich("none of it, as it is not OVER", "row(1, 0) = 0", call + "(1) = UNLIKE");
        E.rich("something, as it is OVER", "SAY 6", call + "(1) = UNLIKE");
        E.edge("a SPEECH without WORDS", "SPEECH ne0", "ROW 0 0", call + "(0) = UNLIKE");
    }

    private static void brings() {
        E.rich("from here on", "brings(1) = 1 asked 17");
        E.rich("nothing is SAID, nothing is BEGUN by it", "brings(1) = 1", "count(3) = 2", "deed(1, 4) = 1 asked 1", "deed(0, 4) = 1 asked 0", "ROW 1 IS 10 8");
        E.edge("the empty one at an END", "SPEECH ne0x010d1209", "begin(0) = 1", "SAY 0", "row(0, 0) = 0", "brings(0) = 1 asked 7");
        E.edge("the empty one where NODE 0 is an END", "SPEECH e0nd1209", "row(0, 0) = 0", "brings(0) = 1 asked 0");
        E.edge("the empty one where it is MUTE", "SPEECH nnx010d1209", "begin(0) = 1", "SAY 0", "row(0, 0) = 0", "brings(0) = 1 asked -2");
        E.edge("to a MUTE NODE", "SPEECH ne0nx010x021d1009", "ROW 0 1", "brings(0) = 1 asked 0");
        E.edge("to a MUTE NODE, one is BEGUN", "SPEECH ne0nx010x021d1209", "begin(0) = 1", "ROW 0 1", "brings(0) = 1 asked -2");
        E.edge("to an OATH", "SPEECH no0x010d1209", "ROW 0 0", "brings(0) = 1 asked 16");
        E.edge("a DEED alike none is BEGUN", "SPEECH ne0e1x010x021d1009", "ROW 0 0", "brings(0) = 1 asked 9", "ROW 0 1", "brings(0) = 1 asked 0");
        E.edge("a DEED that is not sure is not", "SPEECH ne0e1x010x021d1109", "ROW 0 0", "brings(0) = 1 asked 0", "ROW 0 1", "brings(0) = 1 asked 0");
        E.edge("less than none, of what is BEGUN", "SPEECH ne0e1x010x021d1109", "begin(0) = 1", "ROW 0 1", "brings(0) = 1 asked -1");
        E.edge("each time, once more is known", "SPEECH nnne0e1x010x021x130x241d1109d1119", "ROW 0 0 2", "brings(0) = 1 asked 8", "ROW 0 1 3", "brings(0) = 1 asked 8");
        E.edge("in a LULL's YEAR what is BEGUN is lost", "SPEECH nlne0x010x120x230d2109", "begin(0) = 2", "ROW 0 0 1 2", "brings(0) = 1 asked 0");
        E.edge("in a COMMA's YEAR nothing is done", "SPEECH cne0x010x120d2109", "begin(0) = 2", "ROW 0 0 1", "brings(0) = 1 asked 0");
        E.edge("from a WHISPER no YEAR goes by", "SPEECH wnne0x010x120x230d2109", "ROW 0 0 1 2", "brings(0) = 1 asked 8");
        E.edge("eight WORDS, four DEEDS", "SPEECH " + EIGHT + "d2109d2109d2109d2109", EIGHT_WORDS, "brings(0) = 1 asked 32");
        E.edge("by the first ROW and the last", "SPEECH ne0x010d1209", "ROW 0 0", "ROW 5 0", "brings(0) = 1 asked 7", "brings(5) = 1 asked 7");
    }

    private static void knows() {
        E.rich("from here on", "knows(1) = 1 asked 17");
        E.rich("nothing is SAID, nothing is BEGUN by it", "knows(1) = 1", "count(3) = 2", "deed(1, 4) = 1 asked 1", "deed(0, 4) = 1 asked 0", "ROW 1 IS 10 8");
        E.edge("the empty one at an END", "SPEECH ne0x010d1209", "begin(0) = 1", "SAY 0", "row(0, 0) = 0", "knows(0) = 1 asked 7");
        E.edge("the empty one where NODE 0 is an END", "SPEECH e0nd1209", "row(0, 0) = 0", "knows(0) = 1 asked 0");
        E.edge("the empty one where it is MUTE", "SPEECH nnx010d1209", "begin(0) = 1", "SAY 0", "row(0, 0) = 0", "knows(0) = 1 asked -2");
        E.edge("to a MUTE NODE", "SPEECH ne0nx010x021d1209", "ROW 0 1", "knows(0) = 1 asked 0");
        E.edge("to a MUTE NODE, one is BEGUN", "SPEECH ne0nx010x021d1209", "begin(0) = 1", "ROW 0 1", "knows(0) = 1 asked -2");
        E.edge("to an OATH", "SPEECH no0x010d1209", "ROW 0 0", "knows(0) = 1 asked 16");
        E.edge("what is not sure but known", "SPEECH ne0e1x010x021d1109", "ROW 0 0", "knows(0) = 1 asked 8", "ROW 0 1", "knows(0) = 1 asked 0");
        E.edge("less than none, of what is BEGUN", "SPEECH ne0e1x010x021d1109", "begin(0) = 1", "ROW 0 1", "knows(0) = 1 asked -1");
        E.edge("the last DEED of four", "SPEECH ne0x010d1000d1001d1002d1009", "ROW 0 0", "knows(0) = 1 asked 9");
        E.edge("it waits for a LULL to go by", "SPEECH lne0x010x120d1109", "ROW 0 0 1", "knows(0) = 1 asked 8");
        E.edge("a LULL between", "SPEECH nlne0x010x120x230d2109d1104", "ROW 0 0 1 2", "knows(0) = 1 asked 3");
        E.edge("another SENTENCE behind it", "SPEECH ne0e1x010x021d1109d1118", "ROW 0 0", "ROW 1 1", "knows(0) = 1 asked 8", "knows(1) = 1 asked 7", "knows(0) = 1 asked 8");
        E.edge("worst(), hopes() behind it", "SPEECH ne0e1x010x021d1109", "ROW 0 0", "worst() = 0 asked NONE", "knows(0) = 1 asked 8", "worst() = 0 asked NONE", "knows(0) = 1 asked 8",
            "hopes() = 1 asked 0 by 7/2");
        E.edge("eight WORDS, four DEEDS", "SPEECH " + EIGHT + "d2109d2109d2109d2109", EIGHT_WORDS, "knows(0) = 1 asked 32");
        E.edge("eight WORDS, one YEAR too few", "SPEECH " + EIGHT + "d2109d2109d2109d3108", EIGHT_WORDS, "knows(0) = 1 asked 24", "prize(3, 9) = 8", "knows(0) = 1 asked 24");
        E.edge("by the last ROW", "SPEECH ne0x010d1209", "ROW 5 0", "knows(5) = 1 asked 7");
    }

    /** What heard(), slips(), first() refuse alike: BAD; STATE; NOTHING; SIZE; UNLIKE. */
    private static void refusedAsSounds(String open, String close) {
        for (String r : new String[] {"-1", "6", "MIN", "MAX"}) E.each(open + r + close + " = BAD");
        E.each(open + "5" + close + " = NOTHING", open + "0" + close + " = SIZE", open + "4" + close + " = SIZE");
        E.edge("no NODES, ahead of NOTHING", open + "0" + close + " = STATE");
        E.edge("no NODES, ahead of SIZE", "ROW 0 0*9", open + "0" + close + " = STATE");
        E.edge("no NODES, ahead of UNLIKE", "ROW 0 10", open + "0" + close + " = STATE");
        E.edge("BAD ahead of STATE", open + "6" + close + " = BAD", open + "-1" + close + " = BAD");
        E.rich("SIZE ahead of UNLIKE", "lay(4, 0, 10) = 1", open + "4" + close + " = SIZE");
        for (String v : new String[] {"-1", "10", "-8", "-10", "MIN", "MAX"}) {
            E.rich("neither a SOUND nor NONE: " + v, "ROW 1 " + v, open + "1" + close + " = UNLIKE");
            E.rich("neither a SOUND nor NONE at last: " + v, "ROW 1 0 " + v, open + "1" + close + " = UNLIKE");
        }
        E.edge("neither a SOUND nor NONE at the eighth", "SPEECH " + EIGHT, "ROW 0 0 1 2 3 4 5 6 10", open + "0" + close + " = UNLIKE");
        E.edge("nor where none is of so many WORDS", "SPEECH ne0x010", "ROW 0 0 0 0 10", open + "0" + close + " = UNLIKE");
        E.edge("nor when it is OVER", "SPEECH e0n", "ROW 0 10", open + "0" + close + " = UNLIKE");
    }

    private static void heard() {
        E.rich("from here on", "heard(2) = 1 asked 2");
        E.rich("of so many WORDS: one", "ROW 2 -9", "heard(2) = 1 asked 2");
        E.rich("of so many WORDS: two", "ROW 2 -9 -9", "heard(2) = 2 asked 6");
        E.rich("of so many WORDS: three", "ROW 2 -9 -9 -9", "heard(2) = 0 asked 0");
        E.rich("of no WORDS, as it is not OVER", "heard(3) = 0 asked 0");
        E.rich("of no WORDS at an END", "SAY 6", "heard(3) = 1 asked 2");
        E.rich("of a WORD at an END", "SAY 6", "ROW 2 -9", "heard(2) = 0 asked 0");
        E.edge("of no WORDS where it is MUTE", "SPEECH nnx010", "SAY 0", "row(0, 0) = 0", "heard(0) = 0 asked 0");
        E.edge("to where it is MUTE", "SPEECH nnx010", "ROW 0 0", "heard(0) = 0 asked 0");
        E.edge("the least SOUND and the greatest", "SPEECH ne0e5x010x029", "ROW 0 0", "heard(0) = 1 asked 1", "ROW 0 9", "heard(0) = 1 asked 32", "ROW 0 -9", "heard(0) = 2 asked 33");
        E.edge("a SOUND that no WORD has", "SPEECH ne0x010", "ROW 0 1", "heard(0) = 0 asked 0");
        E.edge("eight SOUNDS", "SPEECH " + EIGHT, EIGHT_WORDS, "heard(0) = 1 asked 1");
        E.edge("eight that are not heard", "SPEECH " + EIGHT, "ROW 0 -9*8", "heard(0) = 1 asked 1");
        E.edge("seven that are not heard", "SPEECH " + EIGHT, "ROW 0 -9*7", "heard(0) = 0 asked 0");
        E.edge("eight, the last another one", "SPEECH " + EIGHT, "ROW 0 0 1 2 3 4 5 6 6", "heard(0) = 0 asked 0");
        E.edge("as many as there can be", "SPEECH " + MANY, "ROW 0 -9*5", "heard(0) = 162 asked 1");
        E.edge("as many as there can be, one SOUND heard", "SPEECH " + MANY, "ROW 0 -9*4 1", "heard(0) = 81 asked 1");
        E.edge("all MEANINGS", "SPEECH nnne0e1e2e3o4o5x010x021x130x141x152x163x270x281", "ROW 0 -9 -9", "heard(0) = 6 asked 63");
        E.edge("by the first ROW and the last", "SPEECH ne0x010", "ROW 0 0", "ROW 5 1", "heard(0) = 1 asked 1", "heard(5) = 0 asked 0");
        E.rich("it changes nothing", "heard(2) = 1", "ROW 2 IS 0 5", "count(3) = 2");
    }

    private static void slips() {
        E.rich("none", "slips(2) = 2");
        E.rich("one slip at first", "ROW 2 9 5", "slips(2) = 2");
        E.rich("one slip at last", "ROW 2 0 9", "slips(2) = 1");
        E.rich("two slips are too many", "ROW 2 9 9", "slips(2) = 0");
        E.rich("of no WORDS, as it is not OVER", "slips(3) = 0");
        E.rich("of no WORDS at an END", "SAY 6", "slips(3) = 1");
        E.rich("of one WORD: any SOUND may be a slip", "ROW 2 9", "slips(2) = 1");
        E.rich("what is not heard is no slip", "ROW 2 -9 9", "slips(2) = 2");
        E.rich("nothing heard", "ROW 2 -9 -9", "slips(2) = 2");
        E.edge("of no WORDS where it is MUTE", "SPEECH nnx010", "SAY 0", "row(0, 0) = 0", "slips(0) = 0");
        E.edge("to where it is MUTE", "SPEECH nnx010", "ROW 0 0", "slips(0) = 0");
        E.edge("eight SOUNDS, none", "SPEECH " + EIGHT, EIGHT_WORDS, "slips(0) = 1");
        E.edge("eight SOUNDS, the eighth a slip", "SPEECH " + EIGHT, "ROW 0 0 1 2 3 4 5 6 0", "slips(0) = 1");
        E.edge("eight SOUNDS, the first and the eighth", "SPEECH " + EIGHT, "ROW 0 9 1 2 3 4 5 6 0", "slips(0) = 0");
        E.edge("seven SOUNDS of eight WORDS", "SPEECH " + EIGHT, "ROW 0 0 1 2 3 4 5 6", "slips(0) = 0");
        E.edge("as many as there can be: itself, two by each of four, one by the last", "SPEECH " + MANY, "ROW 0 0*5", "slips(0) = 10");
        E.edge("as many as there can be, nothing heard", "SPEECH " + MANY, "ROW 0 -9*5", "slips(0) = 162");
        E.edge("a slip that no WORD has", "SPEECH " + MANY, "ROW 0 0 0 0 0 9", "slips(0) = 2");
        E.edge("the same SENTENCE is one, by whichever slip", "SPEECH ne0x010x011", "ROW 0 5", "slips(0) = 2");
        E.rich("asked() stays", "slips(2) = 2", "asked() = 7");
    }

    private static void first() {
        for (String to : new String[] {"-1", "6", "MIN", "MAX"}) E.each("first(2, " + to + ") = BAD");
        E.edge("BAD ahead of STATE, to", "first(0, 6) = BAD", "first(0, -1) = BAD");
        E.rich("BAD ahead of NOTHING, to", "first(5, 6) = BAD");
        E.rich("BAD ahead of SIZE, to", "first(4, 6) = BAD");
        E.rich("BAD ahead of UNLIKE, to", "ROW 2 10", "first(2, 6) = BAD");
        E.rich("to a missing ROW", "first(2, 5) = 2", "ROW 5 IS 10 8", "count(6) = 6");
        E.rich("to an empty ROW", "first(2, 3) = 2", "ROW 3 IS 10 8");
        E.rich("to a full ROW, anew", "first(2, 0) = 2", "ROW 0 IS 10 8", "row(0, 40) = 40", "at(0, 39) = 1 asked 0");
        E.rich("to the same ROW", "first(2, 2) = 2", "ROW 2 IS 10 8");
        E.rich("from the first ROW to the last", "ROW 0 -9", "first(0, 5) = 1", "ROW 5 IS 6", "ROW 0 IS -9");
        E.rich("the first of two", "ROW 2 -9 -9", "first(2, 5) = 2", "ROW 5 IS 7 9");
        E.rich("none: the ROW stays", "ROW 2 9 5", "first(2, 1) = NONE", "ROW 1 IS 10 8");
        E.rich("none: the ROW stays missing", "ROW 2 9 5", "first(2, 5) = NONE", "at(5, 0) = NOTHING");
        E.rich("none: the same ROW stays", "ROW 2 9 5", "first(2, 2) = NONE", "ROW 2 IS 9 5");
        E.rich("a slip is none", "ROW 2 0 9", "first(2, 5) = NONE");
        E.rich("of no WORDS, as it is not OVER", "first(3, 5) = NONE");
        E.rich("of no WORDS at an END", "SAY 6", "first(3, 1) = 0", "ROW 1 IS");
        E.rich("of no WORDS at an END, to itself", "SAY 6", "first(3, 3) = 0", "ROW 3 IS");
        E.edge("of no WORDS where it is MUTE", "SPEECH nnx010", "SAY 0", "row(0, 0) = 0", "first(0, 0) = NONE");
        E.edge("the first WORD leads to where it is MUTE", "SPEECH nne0x010x021", "ROW 0 -9", "first(0, 1) = 1", "ROW 1 IS 1");
        E.edge("by the number of WORDS, not by SOUNDS", "SPEECH ne0x019x010", "ROW 0 -9", "first(0, 1) = 1", "ROW 1 IS 0");
        E.edge("the first WORD ahead of the second", "SPEECH nnne0x021x010x130x232", "ROW 0 -9 -9", "first(0, 1) = 2", "ROW 1 IS 0 3");
        E.edge("WORDS that stand in another order than they are SAID", "SPEECH nnne0x231x230x011x020x130", "ROW 0 -9 -9", "first(0, 1) = 2", "ROW 1 IS 2 4",
            "ROW 0 0 -9", "first(0, 1) = 2", "ROW 1 IS 3 0", "ROW 0 0 0", "first(0, 1) = 2", "ROW 1 IS 3 1");
        E.edge("eight WORDS", "SPEECH " + EIGHT, "ROW 0 -9*8", "first(0, 0) = 8", "ROW 0 IS 0 1 2 3 4 5 6 7");
        E.edge("the first of as many as there can be", "SPEECH " + MANY, "ROW 0 -9*5", "first(0, 0) = 5", "ROW 0 IS 0 3 6 9 12");
        E.edge("the last of as many as there can be", "SPEECH " + MANY, "ROW 0 2 2 2 2 1", "first(0, 0) = 5", "ROW 0 IS 2 5 8 11 13");
        E.rich("asked() stays", "first(2, 5) = 2", "asked() = 7");
    }

    private static void least() {
        E.rich("from here on", "least(1) = 1 asked 1");
        E.rich("one WORD alone is of one WORD", "ROW 1 6", "least(1) = 0 asked 0");
        E.edge("the empty one at an END", "SPEECH ne0x010", "SAY 0", "row(0, 0) = 0", "least(0) = 0 asked 0");
        E.edge("the empty one where NODE 0 is an OATH", "SPEECH o0n", "row(0, 0) = 0", "least(0) = 0 asked 0");
        E.edge("the empty one where it is MUTE", "SPEECH nnx010", "SAY 0", "row(0, 0) = 0", "least(0) = UNLIKE");
        E.edge("the empty one where NODE 0 is MUTE", "SPEECH nn", "row(0, 0) = 0", "least(0) = UNLIKE");
        E.edge("to a MUTE NODE", "SPEECH ne0nx010x021", "ROW 0 1", "least(0) = UNLIKE");
        E.edge("another one that ends MUTE is no MEANING", "SPEECH ne0nx010x021", "ROW 0 0", "least(0) = 0 asked 0");
        E.edge("another one of the same MEANING", "SPEECH ne0o0x010x021", "ROW 0 0", "least(0) = 0 asked 0");
        E.edge("another one of more WORDS", "SPEECH nne0e1x020x011x130", "ROW 0 0", "least(0) = 0 asked 0");
        E.edge("another MEANING", "SPEECH ne0e1x010x021", "ROW 0 0", "least(0) = 1 asked 1", "ROW 0 1", "least(0) = 1 asked 1");
        E.edge("either of two places: the least", "SPEECH nnne0e1x010x021x130x241", "ROW 0 0 2", "least(0) = 1 asked 1", "ROW 0 1 3", "least(0) = 1 asked 1");
        E.edge("the second of two places", "SPEECH nnne0e1x010x021x130x141x230x241", "ROW 0 0 2", "least(0) = 1 asked 2");
        E.edge("the second of two places, as one WORD alone is the first", "SPEECH nne0e1x010x121x130", "ROW 0 0 1", "least(0) = 1 asked 2");
        E.edge("all of three places", "SPEECH " + PARITY, "ROW 0 0 2 6", "least(0) = 3 asked 7", "ROW 0 1 5 7", "least(0) = 3 asked 7");
        E.edge("the seventh of seven places", "SPEECH nnnnnnne0e1x010x120x230x340x450x560x670x681", "ROW 0 0 1 2 3 4 5 6", "least(0) = 1 asked 64", "ROW 0 0 1 2 3 4 5 7", "least(0) = 1 asked 64");
        E.edge("eight WORDS", "SPEECH " + EIGHT, EIGHT_WORDS, "least(0) = 0 asked 0");
        E.edge("as many as there can be, of one MEANING", "SPEECH " + MANY, "ROW 0 0 3 6 9 12", "least(0) = 0 asked 0");
        E.edge("one behind the other", "SPEECH " + PARITY + "x062", "ROW 0 0 2 6", "ROW 1 10", "least(0) = 3 asked 7", "least(1) = 0 asked 0", "least(0) = 3 asked 7");
        E.edge("behind heard()", "SPEECH " + PARITY + "x062", "ROW 0 10", "ROW 1 -9*3", "heard(1) = 8 asked 3", "least(0) = 0 asked 0", "ROW 0 1 5 7", "least(0) = 3 asked 7");
        E.edge("by the last ROW", "SPEECH ne0e1x010x021", "ROW 5 0", "least(5) = 1 asked 1");
        E.rich("it changes nothing", "least(1) = 1", "ROW 1 IS 10 8", "count(3) = 2");
    }

    private static void lots() {
        E.promise(38, "lots");
        for (String n : new String[] {"0", "9", "-1", "MIN", "MAX"}) E.each("lots(" + n + ", 1) = BAD");
        for (String seed : new String[] {"0", "-1", "MIN", "MAX", "-2147483647"}) E.each("lots(1, " + seed + ") = BAD");
        E.edge("no NODES", "lots(1, 1) = STATE", "lots(8, 2147483646) = STATE");
        E.edge("BAD ahead of STATE", "lots(0, 1) = BAD", "lots(9, 1) = BAD", "lots(1, 0) = BAD", "lots(1, MAX) = BAD");
        E.edge("BAD when it is OVER", "SPEECH e0n", "lots(0, 1) = BAD", "lots(9, 1) = BAD", "lots(1, 0) = BAD", "lots(1, MAX) = BAD");
        E.edge("OVER at an END", "SPEECH ne0x010", "SAY 0", "lots(1, 1) = 0", "count(3) = 1");
        E.edge("OVER where it is MUTE", "SPEECH nnx010", "SAY 0", "lots(8, 1) = 0", "count(3) = 1");
        E.edge("OVER at once", "SPEECH e0n", "lots(8, 2147483646) = 0", "count(3) = 0");
        E.edge("till it is OVER at an END", "SPEECH ne0x010", "lots(8, 1) = 1", "over() = 1");
        E.edge("till it is OVER where it is MUTE", "SPEECH nnnx010x120", "lots(8, 1) = 2", "here() = 2 asked 2");
        E.edge("one WORD", "SPEECH " + EIGHT, "lots(1, 1) = 1", "here() = 1 asked 1");
        E.edge("seven WORDS", "SPEECH " + EIGHT, "lots(7, 1) = 7", "here() = 7 asked 7");
        E.edge("eight WORDS", "SPEECH " + EIGHT, "lots(8, 1) = 8", "here() = 8 asked 8");
        E.edge("eight WORDS behind one", "SPEECH " + EIGHT, "SAY 0", "lots(8, 1) = 7", "here() = 8 asked 8", "count(3) = 8");
    }

    private static void lotsAsDue() {
        // From 1 come 48271, 182605794, 1291394886, 1914720637, 2078669041; from 2147483646 come 2147435376, 1964877853, 856088761.
        E.edge("the least seed", "SPEECH " + MANY, "lots(8, 1) = 5", "told(0) = 5", "ROW 0 IS 1 3 6 10 13");
        E.edge("the greatest seed", "SPEECH " + MANY, "lots(3, 2147483646) = 3", "told(0) = 3", "ROW 0 IS 0 4 7");
        E.edge("of four WORDS the last", "SPEECH ne0x010x011x012x013", "lots(1, 1) = 1", "told(0) = 1", "ROW 0 IS 3");
        E.edge("of four WORDS the first", "SPEECH ne0x010x011x012x013", "lots(1, 2147483646) = 1", "told(0) = 1", "ROW 0 IS 0");
        E.edge("of one WORD that one", "SPEECH ne0x010", "lots(1, 1) = 1", "told(0) = 1", "ROW 0 IS 0");
        E.edge("WORDS by their numbers, the least first, whatever their SOUNDS", "SPEECH ne0x019x010", "lots(1, 1) = 1", "told(0) = 1", "ROW 0 IS 1");
        E.edge("WORDS that are no neighbours", "SPEECH nne0x010x120x021", "lots(1, 1) = 1", "told(0) = 1", "ROW 0 IS 2");
        E.edge("a number comes from the one ahead", "SPEECH nne0x010x011x120x121", "lots(2, 1) = 2", "told(0) = 2", "ROW 0 IS 1 2");
        E.edge("the seed anew at each call", "SPEECH nne0x010x011x120x121", "lots(1, 1) = 1", "lots(1, 1) = 1", "told(0) = 2", "ROW 0 IS 1 3");
        E.edge("a number is used up where there is one WORD alone, too", "SPEECH nne0x010x120x121", "lots(2, 1) = 2", "told(0) = 2", "ROW 0 IS 0 1");
        E.edge("truly: DEEDS are worked at", "SPEECH nne0x010x120d2009", "begin(0) = 2", "lots(2, 1) = 2", "deed(0, 4) = 1 asked 2", "over() = 1 asked 9");
        E.edge("truly: what is BEGUN is lost in a LULL's YEAR", "SPEECH lne0x010x120d2009", "begin(0) = 2", "lots(1, 1) = 1", "deed(0, 4) = 1 asked 3");
        E.edge("truly: a WHISPER costs no YEAR", "SPEECH wne0x010x120", "lots(2, 1) = 2", "here() = 2 asked 1");
        E.edge("truly: undone one by one", "SPEECH nne0x010x120d2009", "begin(0) = 2", "lots(2, 1) = 2", "undo(1) = 1", "deed(0, 4) = 1 asked 1", "here() = 1 asked 1");
        E.rich("behind what was SAID", "lots(1, 1) = 1", "told(5) = 3", "ROW 5 IS 0 2 7");
        E.rich("asked() stays", "lots(1, 1) = 1", "asked() = 7");
    }
}
