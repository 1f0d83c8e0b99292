/** Boundary cases of promises 25 to 31: what can still be meant, and what to do at best. */
public final class MeaningEdgesTest {
    private static final Edges E = new Edges();

    /** Eight WORDS, as many as can be SAID: each leads to the next of nine NODES. */
    private static final String EIGHT = "nnnnnnnne0x010x120x230x340x450x560x670x780";
    /** One SENTENCE of 162 lots means 1; at each of five NODES all WORDS but one end it with 0. */
    private static final String RARE = "nnnnne0e1x010x051x052x120x151x152x230x251x252x340x351x352x460x451";
    /** As many SENTENCES as there can be, all of five WORDS. */
    private static final String MANY = "nnnnne0" + "x010x011x012" + "x120x121x122" + "x230x231x232" + "x340x341x342" + "x450x451";

    public static void main(String[] args) {
        odds();
        years();
        just();
        known();
        tell();
        worst();
        worstByKinds();
        worstOneWayAndAnother();
        hopes();
        E.end(25, 31);
    }

    private static void odds() {
        E.promise(25, "odds");
        E.each("odds(-1) = BAD", "odds(6) = BAD", "odds(MIN) = BAD", "odds(MAX) = BAD");
        E.edge("no NODES", "odds(0) = STATE", "odds(5) = STATE", "upper() = 0", "lower() = 1");
        E.edge("BAD ahead of STATE", "odds(6) = BAD", "odds(-1) = BAD");
        E.edge("the least MEANING for sure", "SPEECH ne0x010", "odds(0) = 1 by 1/1", "odds(5) = 1 by 0/1");
        E.edge("the greatest MEANING for sure", "SPEECH no5x010", "odds(5) = 1 by 1/1", "odds(0) = 1 by 0/1");
        E.edge("at an END", "SPEECH ne3x010", "SAY 0", "odds(3) = 1 by 1/1", "odds(2) = 1 by 0/1", "odds(4) = 1 by 0/1");
        E.edge("NODE 0 an END", "SPEECH e3n", "odds(3) = 1 by 1/1", "odds(0) = 1 by 0/1");
        E.edge("no END at all", "SPEECH nnx010", "odds(0) = 1 by 0/1", "odds(5) = 1 by 0/1");
        E.edge("where it is MUTE", "SPEECH nnx010", "SAY 0", "odds(0) = 1 by 0/1");
        E.edge("an END that can't come", "SPEECH ne0e1x010", "odds(1) = 1 by 0/1");
        E.edge("an END that can't come any more", "SPEECH ne0e1x010x021", "SAY 0", "odds(1) = 1 by 0/1", "odds(0) = 1 by 1/1");
        E.edge("what ends MUTE takes its share", "SPEECH ne0nx010x021", "odds(0) = 1 by 1/2");
        E.edge("lowest terms, all", "SPEECH ne0x010x011x012x013", "odds(0) = 1 by 1/1");
        E.edge("lowest terms, two of four", "SPEECH ne0e1x010x011x022x023", "odds(0) = 1 by 1/2", "odds(1) = 1 by 1/2");
        E.edge("three of four", "SPEECH ne0e1x010x011x012x023", "odds(0) = 1 by 3/4", "odds(1) = 1 by 1/4");
        E.edge("an END and an OATH of one MEANING", "SPEECH ne2o2e1x010x021x032", "odds(2) = 1 by 2/3");
        E.edge("WORDS are alike likely, not SENTENCES", "SPEECH nne0e1x010x031x120x121x122", "odds(0) = 1 by 1/2", "odds(1) = 1 by 1/2");
        E.edge("also from a COMMA, a WHISPER, a LULL", "SPEECH cwle0e1x010x031x120x131x230x241", "odds(0) = 1 by 7/8", "odds(1) = 1 by 1/8");
        E.edge("the smallest chance", "SPEECH " + RARE, "odds(1) = 1 by 1/162", "odds(0) = 1 by 161/162");
        E.edge("the smallest chance but one WORD", "SPEECH " + RARE, "SAY 0", "odds(1) = 1 by 1/54", "SAY 3 6 9", "odds(1) = 1 by 1/2");
        E.rich("from where THE SPEECH is", "odds(0) = 1 by 0/1", "odds(1) = 1 by 2/3", "odds(2) = 1 by 1/3");
        E.rich("asked() stays", "odds(0) = 1", "asked() = 7");
    }

    private static void years() {
        E.promise(26, "years");
        E.edge("no NODES", "years() = STATE", "asked() = 0");
        E.edge("no NODES, and something was told", "ROW 0 6", "at(0, 0) = 1", "years() = STATE", "asked() = 6");
        E.edge("there is none: asked() stays", "SPEECH nnx010", "ROW 0 6", "at(0, 0) = 1", "years() = NONE asked 6");
        E.edge("there is none where it is MUTE", "SPEECH nne0x010x021", "SAY 0", "years() = NONE");
        E.edge("there is none where NODE 0 is MUTE", "SPEECH ne0", "years() = NONE");
        E.edge("the empty one at an END", "SPEECH ne0x010", "SAY 0", "years() = 0 asked 0");
        E.edge("the empty one where NODE 0 is an OATH", "SPEECH o0n", "years() = 0 asked 0");
        E.edge("one", "SPEECH ne0x010", "years() = 1 asked 1");
        E.edge("eight", "SPEECH " + EIGHT, "years() = 8 asked 8");
        E.edge("one or eight", "SPEECH " + EIGHT + "x081", "years() = 1 asked 8");
        E.edge("none from WHISPERS", "SPEECH wwwwwwwwe0x010x120x230x340x450x560x670x780", "years() = 0 asked 0");
        E.edge("a COMMA's and a LULL's count", "SPEECH cle0x010x120", "years() = 2 asked 2");
        E.edge("a WHISPER on the shorter way", "SPEECH nwe0x010x120x021", "years() = 1 asked 1");
        E.edge("fewer YEARS by more WORDS", "SPEECH wwnne0x010x120x021x240x231x340", "years() = 1 asked 2");
        E.edge("a longer way that ends MUTE", "SPEECH ne0nnx010x021x230", "years() = 1 asked 1");
        E.edge("a shorter way that ends MUTE", "SPEECH nne0nx010x120x031", "years() = 2 asked 2");
        E.rich("from where THE SPEECH is", "years() = 1 asked 2");
    }

    private static void just() {
        E.promise(27, "just");
        E.each("just(-1) = BAD", "just(9) = BAD", "just(MIN) = BAD", "just(MAX) = BAD");
        E.edge("no NODES", "just(0) = STATE", "just(8) = STATE", "asked() = 0");
        E.edge("BAD ahead of STATE", "just(9) = BAD", "just(-1) = BAD");
        E.edge("the empty one", "SPEECH e0n", "just(0) = 1 asked NONE", "just(1) = 0 asked NONE", "just(8) = 0 asked NONE");
        E.edge("the empty one, once it is OVER", "SPEECH ne0x010", "SAY 0", "just(0) = 1 asked NONE", "just(1) = 0 asked NONE");
        E.edge("none where it is MUTE", "SPEECH nnx010", "just(0) = 0 asked NONE", "just(1) = 0 asked NONE", "SAY 0", "just(0) = 0 asked NONE");
        E.edge("one YEAR: neither fewer nor more", "SPEECH ne0x010", "just(0) = 0 asked NONE", "just(1) = 1 asked 0", "just(2) = 0 asked NONE");
        E.edge("eight", "SPEECH " + EIGHT, "just(8) = 1 asked 0", "just(7) = 0 asked NONE");
        E.edge("from a WHISPER none, and yet a WORD", "SPEECH we0x010", "just(0) = 1 asked 0", "just(1) = 0 asked NONE");
        E.edge("none from eight WHISPERS", "SPEECH wwwwwwwwe0x010x120x230x340x450x560x670x780", "just(0) = 1 asked 0", "just(8) = 0 asked NONE");
        E.edge("the first one's first WORD is not the first WORD", "SPEECH nne0x020x011x120", "just(1) = 1 asked 0", "just(2) = 1 asked 1");
        E.edge("the first WORD ends MUTE", "SPEECH nne0x010x021", "just(1) = 1 asked 1");
        E.edge("as many as there can be", "SPEECH " + MANY, "just(5) = 162 asked 0", "just(4) = 0 asked NONE", "just(6) = 0 asked NONE");
        E.edge("the last ones of as many", "SPEECH " + MANY, "SAY 2 5 8 11", "just(1) = 2 asked 12");
        E.edge("a COMMA's and a LULL's YEARS count", "SPEECH cle0x010x120", "just(2) = 1 asked 0", "just(1) = 0 asked NONE");
        E.edge("by the WORD from here, whatever is SAID behind it", "SPEECH nnne0x230x131x020x011", "just(2) = 2 asked 2", "SAY 3", "just(1) = 1 asked 1");
        E.edge("two of several", "SPEECH nne0x010x021x120x121", "just(1) = 1 asked 1", "just(2) = 2 asked 0");
        E.rich("from where THE SPEECH is", "just(1) = 1 asked 6", "just(2) = 2 asked 7", "just(3) = 0 asked NONE");
    }

    private static void known() {
        E.promise(28, "known");
        E.edge("no NODES", "known() = STATE");
        E.edge("at an END", "SPEECH e0n", "known() = 0");
        E.edge("where it is MUTE", "SPEECH ne0", "known() = 0");
        E.edge("one END alone", "SPEECH ne0x010", "known() = 0");
        E.edge("eight YEARS, and known from the first", "SPEECH " + EIGHT, "known() = 0");
        E.edge("two ENDS of one MEANING", "SPEECH ne0e0x010x021", "known() = 0");
        E.edge("an END and an OATH of one MEANING", "SPEECH ne0o0x010x021", "known() = 0");
        E.edge("it ends MUTE in any case, at one NODE or another", "SPEECH nnnx010x021", "known() = 0");
        E.edge("two MEANINGS", "SPEECH ne0e1x010x021", "known() = 1");
        E.edge("an END, or MUTE", "SPEECH ne0nx010x021", "known() = 1");
        E.edge("once it is known", "SPEECH ne0e1x010x021", "SAY 0", "known() = 0");
        E.edge("known with the last WORD of as many as there can be", "SPEECH nnnnnnne0e1x010x120x230x340x450x560x670x681", "known() = 7", "SAY 0 1 2 3 4 5", "known() = 1", "SAY 6", "known() = 0");
        E.edge("MUTE with the last WORD of as many as there can be", "SPEECH nnnnnnne0nx010x120x230x340x450x560x670x681", "known() = 7");
        E.edge("WHISPERS cost no YEAR", "SPEECH wwe0e1x010x120x131", "known() = 0");
        E.edge("a WHISPER behind a YEAR", "SPEECH nwe0e1x010x120x131", "known() = 1");
        E.edge("a WHISPER ahead of a YEAR", "SPEECH wne0e1x010x120x131", "known() = 1");
        E.edge("a COMMA's and a LULL's YEARS count", "SPEECH cle0e1x010x120x131", "known() = 2");
        E.edge("at most: one way is known at once, the other later", "SPEECH nne0e1x020x011x120x131", "known() = 2");
        E.edge("the longer way is known ahead of its end", "SPEECH nnnne0e1x010x051x120x230x340", "known() = 1");
        E.rich("from where THE SPEECH is", "known() = 1");
        E.rich("asked() stays", "known() = 1", "asked() = 7");
    }

    private static void tell() {
        E.promise(29, "tell");
        E.edge("no NODES", "tell() = STATE", "asked() = 0");
        E.edge("none can be SAID at an END: asked() stays", "SPEECH e0n", "ROW 0 6", "at(0, 0) = 1", "tell() = NONE asked 6");
        E.edge("none can be SAID where it is MUTE", "SPEECH ne0", "tell() = NONE asked 0");
        E.edge("none can be SAID any more", "SPEECH ne0x010", "SAY 0", "tell() = NONE");
        E.edge("one WORD alone", "SPEECH ne0x010", "tell() = 0 asked 1");
        E.edge("one WORD alone, to where it is MUTE", "SPEECH nnx010", "tell() = 0 asked 0");
        E.edge("two WORDS, both to where it is MUTE", "SPEECH nnnx010x021", "tell() = 0 asked 0");
        E.edge("alike ones: the first", "SPEECH ne0e1x010x021", "tell() = 0 asked 1");
        E.edge("four alike ones: the first", "SPEECH ne0e1e2e3x010x021x032x043", "tell() = 0 asked 3");
        E.edge("one MEANING in either case", "SPEECH ne0o0x010x021", "tell() = 0 asked 1");
        E.edge("a later one is better", "SPEECH nne0e1e2e3x020x011x052x130x141", "tell() = 1 asked 2");
        E.edge("the last one is better", "SPEECH nne0e1e2e3x020x051x012x130x141", "tell() = 2 asked 2");
        E.edge("if it is not SAID counts as well", "SPEECH ne0e1e2x010x021x032x033", "tell() = 0 asked 2");
        E.edge("MUTE is no MEANING", "SPEECH ne0nx010x021", "tell() = 0 asked 1");
        E.edge("all six are left", "SPEECH nnne0e1e2e3o4o5x010x120x131x142x153x260x271x282", "tell() = 0 asked 6");
        E.edge("all six are left in either case", "SPEECH nnne0e1e2e3o4o5x010x011x120x131x142x153x260x271x282", "tell() = 0 asked 6");
        E.rich("of those that can be SAID now", "tell() = 7 asked 1");
    }

    private static void worst() {
        E.promise(30, "worst");
        E.edge("no NODES", "worst() = STATE", "asked() = 0");
        E.edge("no NODES, and something was told", "ROW 0 6", "at(0, 0) = 1", "worst() = STATE", "asked() = 6");
        E.edge("no DEEDS", "SPEECH ne0x010", "worst() = 0 asked NONE");
        E.edge("NODE 0 an END", "SPEECH e0nd1009", "worst() = 0 asked NONE");
        E.edge("NODE 0 MUTE", "SPEECH ne0d1009", "worst() = 0 asked NONE");
        E.edge("OVER, nothing was BEGUN", "SPEECH ne0x010d1009", "SAY 0", "worst() = 0 asked NONE");
        E.edge("OVER, a DEED is DONE", "SPEECH ne0x010d1209d1009", "begin(0) = 1", "SAY 0", "worst() = 7 asked NONE");
        E.edge("OVER, less than none", "SPEECH ne0x010d1910", "begin(0) = 1", "SAY 0", "worst() = -9 asked NONE");
        E.edge("none can be: one is BEGUN", "SPEECH nne0x010x120d2009d1009", "begin(0) = 2", "worst() = 9 asked NONE");
        E.edge("none can be: all are DONE", "SPEECH nne0x010x120d1109", "begin(0) = 1", "SAY 0", "worst() = 8 asked NONE");
        E.edge("none can be: all are lost", "SPEECH lne0x010x120d1109", "begin(0) = 1", "SAY 0", "worst() = 0 asked NONE");
        E.edge("the first of alike ones", "SPEECH ne0x010d1009d1109d1109", "prize(0, 8) = 9", "worst() = 8 asked 0");
        E.edge("the first of alike ones is not the first", "SPEECH ne0x010d1007d1109d1109", "worst() = 8 asked 1");
        E.edge("the last is the best", "SPEECH ne0x010d1000d1100d1007d1008", "worst() = 8 asked 3");
        E.edge("a DEED that brings 0 ahead of none", "SPEECH ne0x010d1909", "worst() = 0 asked 0");
        E.edge("none ahead of a DEED that brings -1", "SPEECH ne0x010d1908", "worst() = 0 asked NONE");
        E.edge("a DEED that brings 1", "SPEECH ne0x010d1809", "worst() = 1 asked 0");
        E.edge("a DEED that can't be DONE any more is as none", "SPEECH ne0x010d2909", "worst() = 0 asked 0");
        E.edge("a DEED that is just DONE", "SPEECH nne0x010x120d2009", "worst() = 9 asked 0");
        E.edge("a DEED of five YEARS in five", "SPEECH nnnnne0x010x120x230x340x450d5009", "worst() = 9 asked 0", "SAY 0", "worst() = 0 asked 0");
        E.edge("it may wait a YEAR, and so is alike", "SPEECH nne0x010x120d1009", "worst() = 9 asked 0", "SAY 0", "worst() = 9 asked 0");
        E.edge("whatever is SAID", "SPEECH ne0e1x010x021d1009", "worst() = 0 asked 0");
        E.edge("whatever is SAID, and it costs", "SPEECH ne0e1x010x021d1109", "worst() = 0 asked NONE");
        E.edge("less than none, of what is BEGUN", "SPEECH ne0e1x010x021d1109", "begin(0) = 1", "worst() = -1 asked NONE");
        E.edge("what is DONE and what can be", "SPEECH nne0x010x120d1005d1004", "begin(0) = 1", "SAY 0", "worst() = 9 asked 1");
        E.edge("four DEEDS in eight YEARS", "SPEECH " + EIGHT + "d2009d2009d2009d2009", "worst() = 36 asked 0");
        E.edge("two DEEDS of three YEARS in eight", "SPEECH " + EIGHT + "d3007d3008d3009d3006", "worst() = 17 asked 1");
        E.edge("one long DEED or two short ones", "SPEECH nne0x010x120d2007d1003d1003", "worst() = 7 asked 0", "prize(0, 5) = 7", "worst() = 6 asked 1");
        E.edge("an END ahead of other NODES", "SPEECH ne0ne0e0x010x021x231x242d1009", "worst() = 9 asked 0", "begin(0) = 1", "SAY 0", "worst() = 9 asked NONE");
        E.edge("it changes nothing", "SPEECH ne0x010d1009", "worst() = 9 asked 0", "deed(0, 4) = 1 asked 0", "count(3) = 0");
    }

    private static void worstByKinds() {
        E.edge("in a COMMA's YEAR nothing is done", "SPEECH ce0x010d1009", "worst() = 0 asked 0");
        E.edge("behind a COMMA's YEAR it is done", "SPEECH cne0x010x120d1009", "worst() = 9 asked 0");
        E.edge("from a WHISPER nothing is done", "SPEECH we0x010d1009", "worst() = 0 asked 0");
        E.edge("behind a WHISPER it is done", "SPEECH wne0x010x120d1009", "worst() = 9 asked 0");
        E.edge("in a LULL's YEAR it would be lost, as none is", "SPEECH le0x010d1009", "worst() = 0 asked 0");
        E.edge("in a LULL's YEAR it would be lost, and can wait", "SPEECH lne0x010x120d1009", "worst() = 9 asked NONE");
        E.edge("what is BEGUN is lost in a LULL's YEAR", "SPEECH lne0x010x120d1009", "begin(0) = 1", "worst() = 0 asked NONE");
        E.edge("once one is lost another can be BEGUN", "SPEECH lne0x010x120d1009d1004", "begin(0) = 1", "worst() = 4 asked NONE", "hopes() = 1 asked NONE by 4/1");
        E.edge("what is not BEGUN is not lost", "SPEECH lne0x010x120d1009d1004", "SAY 0", "worst() = 9 asked 0", "deed(1, 4) = 1 asked 0");
        E.edge("what costs is better lost", "SPEECH lne1x010x120d1909", "begin(0) = 1", "worst() = 0 asked NONE");
        E.edge("two YEARS, and a LULL between", "SPEECH nlne0x010x120x230d2009", "worst() = 0 asked 0");
        E.edge("two YEARS, and a COMMA between", "SPEECH ncne0x010x120x230d2009", "worst() = 9 asked 0");
        E.edge("from a WHISPER one DEED is BEGUN, not two", "SPEECH wne0x010x120d1009d1004", "worst() = 9 asked 0");
        E.edge("two YEARS, and a WHISPER between", "SPEECH nwne0x010x120x230d2009", "worst() = 9 asked 0");
        E.edge("at an OATH twice", "SPEECH no0x010d1509", "worst() = 13 asked 0");
        E.edge("at an END or at an OATH", "SPEECH ne0o0x010x021d1509", "worst() = 4 asked 0");
        E.edge("where it is MUTE the COST alone", "SPEECH nnx010d1109", "worst() = 0 asked NONE", "begin(0) = 1", "worst() = -1 asked NONE");
        E.edge("at an END or MUTE", "SPEECH ne0nx010x021d1109", "worst() = 0 asked NONE");
        E.edge("it waits for what is SAID", "SPEECH nnne0e1x010x021x130x241d1109d1119", "worst() = 8 asked NONE", "SAY 1", "worst() = 8 asked 1");
    }

    /** At the same NODE, DEEDS in one way and in another: each has its own GAIN, whichever was asked ahead. */
    private static void worstOneWayAndAnother() {
        E.edge("nothing BEGUN, or the last DEED with all its YEARS left", "SPEECH wnnnnne0x010x120x230x340x450x560d1001d1001d1001d5009", "worst() = 9 asked 3");
        E.edge("all four lost, or the first with its last YEAR left", "SPEECH llllcne0x010x120x230x340x450x560d1009d1000d1000d1000", "keep(0) = 0",
            "begin(0) = 1", "SAY 0", "begin(1) = 1", "SAY 1", "begin(2) = 1", "SAY 2", "begin(3) = 1", "SAY 3 4", "worst() = 0 asked NONE",
            "on(0) = 0", "SAY 0 1 2 3", "begin(0) = 1", "SAY 4", "worst() = 9 asked NONE");
        E.edge("three lost and two YEARS left, or none lost and three YEARS left", "SPEECH lllncnne0x010x120x230x340x450x560x670d3009d1000d1000d1000", "keep(0) = 0",
            "begin(1) = 1", "SAY 0", "begin(2) = 1", "SAY 1", "begin(3) = 1", "SAY 2", "begin(0) = 3", "SAY 3 4", "worst() = 9 asked NONE",
            "on(0) = 0", "SAY 0 1 2 3", "begin(0) = 3", "SAY 4", "worst() = 0 asked NONE");
        E.edge("one lost, or two DONE and that one BEGUN", "SPEECH lnncnne0x010x120x230x340x450x560d2009d1001d1001d1001", "keep(0) = 0",
            "begin(0) = 2", "SAY 0 1 2 3", "worst() = 2 asked 1",
            "on(0) = 0", "SAY 0", "begin(1) = 1", "SAY 1", "begin(2) = 1", "SAY 2", "begin(0) = 2", "SAY 3", "worst() = 11 asked NONE");
    }

    private static void hopes() {
        E.promise(31, "hopes");
        E.edge("no NODES", "hopes() = STATE", "asked() = 0", "upper() = 0", "lower() = 1");
        E.edge("no NODES, and something was told", "ROW 0 6", "at(0, 0) = 1", "hopes() = STATE", "asked() = 6");
        E.edge("no DEEDS", "SPEECH ne0x010", "hopes() = 1 asked NONE by 0/1");
        E.edge("NODE 0 an END", "SPEECH e0nd1009", "hopes() = 1 asked NONE by 0/1");
        E.edge("NODE 0 MUTE", "SPEECH ne0d1009", "hopes() = 1 asked NONE by 0/1");
        E.edge("OVER, a DEED is DONE", "SPEECH ne0e1x010x021d1209d1009", "begin(0) = 1", "SAY 0", "hopes() = 1 asked NONE by 7/1");
        E.edge("OVER, less than none", "SPEECH ne0x010d1910", "begin(0) = 1", "SAY 0", "hopes() = 1 asked NONE by -9/1");
        E.edge("none can be: one is BEGUN", "SPEECH ne0e1x010x021d1109d1009", "begin(0) = 1", "hopes() = 1 asked NONE by 7/2");
        E.edge("below 0, of what is BEGUN", "SPEECH ne0e1x010x021d1301", "begin(0) = 1", "hopes() = 1 asked NONE by -5/2");
        E.edge("lowest terms", "SPEECH ne0e1x010x011x022x023d1009", "hopes() = 1 asked 0 by 9/2");
        E.edge("lowest terms, a whole one", "SPEECH ne0e1e2x010x021x032d1009", "hopes() = 1 asked 0 by 3/1");
        E.edge("a DEED that brings 0 ahead of none", "SPEECH ne0e1e2x010x021x032d1309", "hopes() = 1 asked 0 by 0/1");
        E.edge("none ahead of a DEED that brings less", "SPEECH ne0e1e2x010x021x032d1308", "hopes() = 1 asked NONE by 0/1");
        E.edge("the first of alike ones", "SPEECH ne0e1x010x021d1108d1219d1118", "hopes() = 1 asked 0 by 3/1");
        E.edge("the first of alike ones is not the first", "SPEECH ne0e1x010x021d1106d1219d1118", "prize(1, 9) = 9", "hopes() = 1 asked 2 by 3/1");
        E.edge("a DEED that can't be DONE any more is as none", "SPEECH ne0x010d2909", "hopes() = 1 asked 0 by 0/1");
        E.edge("the smallest chance", "SPEECH " + RARE + "d5019", "hopes() = 1 asked 0 by 1/18", "SAY 0", "hopes() = 1 asked 0 by 0/1");
        E.edge("the smallest chance, BEGUN at a COST", "SPEECH " + RARE + "d5119", "hopes() = 1 asked 0 by 7/162");
        E.edge("in a LULL's YEAR it would be lost, and can wait", "SPEECH lne0e1x010x120x131d1009", "hopes() = 1 asked NONE by 9/2");
        E.edge("in a COMMA's YEAR it can be BEGUN", "SPEECH cne0e1x010x120x131d1009", "hopes() = 1 asked 0 by 9/2");
        E.edge("from a WHISPER it can be BEGUN", "SPEECH wne0e1x010x120x131d1009", "hopes() = 1 asked 0 by 9/2");
        E.edge("at an OATH twice", "SPEECH no0e0x010x021d1209", "hopes() = 1 asked 0 by 23/2");
        E.edge("where it is MUTE the COST alone", "SPEECH ne0nx010x021d1109", "hopes() = 1 asked 0 by 7/2");
        E.edge("it waits for what is SAID", "SPEECH nnne0e1x010x021x130x241d1305", "hopes() = 1 asked NONE by 1/1");
        E.edge("what is sure and what is hoped for are two things", "SPEECH ne0e1x010x021d1309", "worst() = 0 asked NONE", "hopes() = 1 asked 0 by 3/2", "worst() = 0 asked NONE");
        E.edge("an END ahead of other NODES", "SPEECH ne0ne1e2x010x021x231x242d1009", "hopes() = 1 asked 0 by 9/2", "begin(0) = 1", "SAY 0", "hopes() = 1 asked NONE by 9/1");
        E.edge("it changes nothing", "SPEECH ne0x010d1009", "hopes() = 1 asked 0 by 9/1", "deed(0, 4) = 1 asked 0", "count(3) = 0");
    }
}
