/** Boundary cases of promises 17 to 24: WORDS SAID, DEEDS BEGUN, YEARS undone and kept. */
public final class YearEdgesTest {
    private static final Edges E = new Edges();

    /** Eight WORDS, as many as can be SAID: each leads to the next of nine NODES. */
    private static final String EIGHT = "nnnnnnnne0x010x120x230x340x450x560x670x780";
    private static final String FOURTEEN = "nnnnn" + "x010x011x012x013" + "x120x121x122x123" + "x230x231x232x233" + "x340x341";

    public static void main(String[] args) {
        say();
        begin();
        undo();
        undoneDeeds();
        here();
        over();
        gains();
        told();
        keep();
        on();
        E.end(17, 24);
    }

    private static void say() {
        E.promise(17, "say");
        E.each("say(-1) = BAD", "say(11) = BAD", "say(MIN) = BAD", "say(MAX) = BAD");
        E.each("say(0) = STATE", "say(2) = STATE", "say(8) = STATE", "say(9) = STATE");
        E.each("say(6) = 6", "say(7) = 7", "say(10) = 5");
        E.edge("no NODES at first", "say(0) = BAD", "say(MAX) = BAD");
        E.edge("a SPEECH without WORDS", "SPEECH nn", "say(0) = BAD");
        E.edge("one WORD: the last is 0", "SPEECH nnx010", "say(1) = BAD", "say(0) = 1");
        E.edge("fourteen: the last is 13", "SPEECH " + FOURTEEN, "SAY 0 4 8", "say(14) = BAD", "say(13) = 4");
        E.edge("the same WORD twice", "SPEECH nnx010", "say(0) = 1", "say(0) = STATE");
        E.edge("OVER at an END", "SPEECH ne0x010", "say(0) = 1", "say(0) = STATE", "say(1) = BAD");
        E.edge("OVER where it is MUTE", "SPEECH nnnx010x021", "say(0) = 1", "say(0) = STATE", "say(1) = STATE");
        E.edge("NODE 0 an END", "SPEECH e0nnx120", "say(0) = STATE");
        E.edge("NODE 0 MUTE", "SPEECH nnnx120", "say(0) = STATE");
        E.edge("eight WORDS are the most", "SPEECH " + EIGHT, "SAY 0 1 2 3 4 5 6", "say(7) = 8", "say(7) = STATE", "say(8) = BAD", "count(3) = 8");
        E.edge("from NODE 0 to the last at once", "SPEECH nnnnnnnne0x080", "say(0) = 8", "over() = 1");
        E.rich("it is SAID, then", "say(6) = 6", "count(3) = 3", "told(5) = 3", "ROW 5 IS 0 2 6");
        E.rich("a YEAR goes by", "say(6) = 6", "here() = 6 asked 3", "deed(1, 4) = 1 asked 2");
        E.rich("a refused one takes no YEAR", "say(8) = STATE", "here() = 3 asked 2", "deed(1, 4) = 1 asked 1");
        E.rich("asked() stays", "say(6) = 6", "asked() = 7");
    }

    private static void begin() {
        E.promise(18, "begin");
        E.each("begin(-1) = BAD", "begin(3) = BAD", "begin(MIN) = BAD", "begin(MAX) = BAD");
        E.rich("it is BEGUN", "begin(1) = STATE");
        E.rich("another one is BEGUN, with one YEAR left", "begin(0) = STATE", "begin(2) = STATE");
        E.edge("no NODES at first", "begin(0) = BAD");
        E.edge("a SPEECH without DEEDS", "SPEECH nnx010", "begin(0) = BAD");
        E.edge("the fewest YEARS", "SPEECH nnx010d1000", "begin(0) = 1");
        E.edge("the most YEARS", "SPEECH nnx010d5000", "begin(0) = 5");
        E.edge("the last of four", "SPEECH nnx010d1000d2000d3000d4000", "begin(4) = BAD", "begin(3) = 4");
        E.edge("another one at the same NODE", "SPEECH nnx010d1000d1000", "begin(0) = 1", "begin(1) = STATE");
        E.rich("once that one is DONE", "SAY 10", "begin(0) = 1", "deed(0, 4) = 1 asked 1");
        E.rich("not what is DONE", "SAY 10", "begin(1) = STATE");
        E.edge("not what is lost", "SPEECH lnnx010x120d1000", "begin(0) = 1", "SAY 0", "begin(0) = STATE");
        E.edge("another one, once one is lost", "SPEECH lnnx010x120d1000d2000", "begin(0) = 1", "SAY 0", "begin(1) = 2");
        E.edge("not while a COMMA keeps one from being DONE", "SPEECH cnnx010x120d1000d2000", "begin(0) = 1", "SAY 0", "begin(1) = STATE", "SAY 1", "begin(1) = STATE");
        E.edge("not while a WHISPER keeps one from being DONE", "SPEECH wnnx010x120d1000d2000", "begin(0) = 1", "SAY 0", "begin(1) = STATE");
        E.edge("at a COMMA", "SPEECH cnx010d1000", "begin(0) = 1");
        E.edge("at a WHISPER", "SPEECH wnx010d1000", "begin(0) = 1");
        E.edge("at a LULL", "SPEECH lnx010d1000", "begin(0) = 1");
        E.edge("not when it is OVER at an END", "SPEECH ne0x010d1000", "SAY 0", "begin(0) = STATE");
        E.edge("not when it is OVER at an OATH", "SPEECH no0x010d1000", "SAY 0", "begin(0) = STATE");
        E.edge("not when it is OVER where it is MUTE", "SPEECH nlx010d1000", "SAY 0", "begin(0) = STATE");
        E.edge("not where NODE 0 is an END", "SPEECH e0nd1000", "begin(0) = STATE");
        E.edge("not where NODE 0 is MUTE", "SPEECH nnd1000", "begin(0) = STATE");
        E.edge("BAD when it is OVER", "SPEECH ne0x010d1000", "SAY 0", "begin(1) = BAD", "begin(-1) = BAD");
        E.edge("BAD while another one is BEGUN", "SPEECH ne0x010d1000", "begin(0) = 1", "begin(1) = BAD");
        E.edge("all four, one behind the other", "SPEECH " + EIGHT + "d1000d1000d1000d1000", "begin(3) = 1", "SAY 0", "begin(1) = 1", "SAY 1", "begin(0) = 1", "SAY 2",
            "begin(2) = 1", "SAY 3", "count(4) = 4", "begin(0) = STATE", "begin(3) = STATE");
        E.edge("it costs no YEAR", "SPEECH nnx010d1000", "begin(0) = 1", "here() = 0 asked 0", "count(3) = 0");
        E.edge("each once: not even with all its YEARS left", "SPEECH nnx010d5000", "begin(0) = 5", "begin(0) = STATE");
    }

    private static void undo() {
        E.promise(19, "undo");
        E.each("undo(-1) = BAD", "undo(3) = BAD", "undo(MIN) = BAD", "undo(MAX) = BAD");
        E.edge("no NODES at first", "undo(0) = 0", "undo(1) = BAD", "undo(-1) = BAD");
        E.edge("nothing is SAID", "SPEECH nnx010", "undo(0) = 0", "undo(1) = BAD");
        E.rich("none from behind the last on", "undo(2) = 0", "count(3) = 2", "here() = 3 asked 2");
        E.rich("the last one alone", "undo(1) = 1", "count(3) = 1", "here() = 1 asked 1");
        E.rich("all", "undo(0) = 2", "count(3) = 0", "here() = 0 asked 0");
        E.rich("all, and then none are left", "undo(0) = 2", "undo(0) = 0", "undo(1) = BAD");
        E.edge("none of eight", "SPEECH " + EIGHT, "SAY 0 1 2 3 4 5 6 7", "undo(9) = BAD", "undo(8) = 0", "here() = 8 asked 8");
        E.edge("the eighth of eight", "SPEECH " + EIGHT, "SAY 0 1 2 3 4 5 6 7", "undo(7) = 1", "here() = 7 asked 7", "say(7) = 8");
        E.edge("all of eight", "SPEECH " + EIGHT, "SAY 0 1 2 3 4 5 6 7", "undo(0) = 8", "here() = 0 asked 0");
        E.edge("it is not OVER any more", "SPEECH ne0x010d1000", "SAY 0", "over() = 1", "undo(0) = 1", "over() = 0", "begin(0) = 1");
        E.rich("another WORD can be SAID then", "undo(1) = 1", "say(3) = 4", "told(5) = 2", "ROW 5 IS 0 3");
        E.rich("kept YEARS stay", "undo(0) = 2", "on(1) = 1", "here() = 1 asked 1", "count(8) = 2");
        E.rich("ROWS stay", "undo(0) = 2", "ROW 1 IS 10 8");
        E.rich("asked() stays", "undo(0) = 2", "asked() = 7");
    }

    private static void undoneDeeds() {
        E.rich("none undone: DEEDS are as they were", "undo(2) = 0", "deed(1, 4) = 1 asked 1", "SAY 6", "deed(1, 4) = 1 asked 2");
        E.rich("a COMMA's YEAR undone", "undo(1) = 1", "deed(1, 4) = 1 asked 1", "SAY 2 6", "deed(1, 4) = 1 asked 2");
        E.rich("all YEARS are left again", "undo(0) = 2", "SAY 1 5", "deed(1, 4) = 1 asked 1", "SAY 6", "deed(1, 4) = 1 asked 2");
        E.edge("DONE no more", "SPEECH nnx010d1000", "begin(0) = 1", "SAY 0", "count(4) = 1", "undo(0) = 1", "count(4) = 0", "deed(0, 4) = 1 asked 1");
        E.edge("lost no more", "SPEECH lnx010d1000", "begin(0) = 1", "SAY 0", "deed(0, 4) = 1 asked 3", "undo(0) = 1", "deed(0, 4) = 1 asked 1", "begin(0) = STATE");
        E.edge("DONE ahead of that WORD stays DONE", "SPEECH nnnx010x120d1000", "begin(0) = 1", "SAY 0 1", "undo(1) = 1", "deed(0, 4) = 1 asked 2");
        E.edge("lost ahead of that WORD stays lost", "SPEECH lnnx010x120d1000", "begin(0) = 1", "SAY 0 1", "undo(1) = 1", "deed(0, 4) = 1 asked 3");
        E.edge("BEGUN just ahead of that WORD stays BEGUN", "SPEECH nnnx010x120d1000", "SAY 0", "begin(0) = 1", "SAY 1", "undo(1) = 1", "deed(0, 4) = 1 asked 1");
        E.edge("BEGUN behind that WORD is not BEGUN", "SPEECH nnnx010x120d1000", "SAY 0", "begin(0) = 1", "undo(0) = 1", "deed(0, 4) = 1 asked 0", "begin(0) = 1");
        E.edge("BEGUN behind the last WORD stays BEGUN if none is undone", "SPEECH nnnx010x120d1000", "SAY 0", "begin(0) = 1", "undo(1) = 0", "deed(0, 4) = 1 asked 1");
        E.edge("BEGUN and nothing SAID", "SPEECH nnx010d1000", "begin(0) = 1", "undo(0) = 0", "deed(0, 4) = 1 asked 1");
        E.edge("one DONE and one BEGUN, back to one BEGUN", "SPEECH nnnnx010x120x230d1000d2000", "begin(0) = 1", "SAY 0", "begin(1) = 2", "SAY 1",
            "undo(0) = 2", "deed(0, 4) = 1 asked 1", "deed(1, 4) = 1 asked 0");
        E.edge("and SAID once more it goes as before", "SPEECH nnnnx010x120x230d1000d2000", "begin(0) = 1", "SAY 0", "begin(1) = 2", "SAY 1", "undo(1) = 1",
            "deed(0, 4) = 1 asked 2", "deed(1, 4) = 1 asked 1", "SAY 1 2", "deed(1, 4) = 1 asked 2");
    }

    private static void here() {
        E.promise(20, "here");
        E.edge("no NODES", "here() = STATE", "asked() = 0");
        E.edge("no NODES, and something was told", "ROW 0 6", "at(0, 0) = 1", "here() = STATE", "asked() = 6");
        E.edge("NODE 0 at first", "SPEECH nnx010", "here() = 0 asked 0");
        E.edge("a YEAR by a WORD", "SPEECH nnx010", "SAY 0", "here() = 1 asked 1");
        E.edge("a YEAR from a COMMA", "SPEECH cnx010", "SAY 0", "here() = 1 asked 1");
        E.edge("a YEAR from a LULL", "SPEECH lnx010", "SAY 0", "here() = 1 asked 1");
        E.edge("none from a WHISPER", "SPEECH wnx010", "SAY 0", "here() = 1 asked 0");
        E.edge("one to a WHISPER", "SPEECH nwx010", "SAY 0", "here() = 1 asked 1");
        E.edge("eight at most", "SPEECH " + EIGHT, "SAY 0 1 2 3 4 5 6 7", "here() = 8 asked 8");
        E.edge("none by eight WHISPERS", "SPEECH wwwwwwwwe0x010x120x230x340x450x560x670x780", "SAY 0 1 2 3 4 5 6 7", "here() = 8 asked 0");
        E.edge("BEGINNING costs no YEAR", "SPEECH nnx010d5000", "begin(0) = 5", "here() = 0 asked 0");
        E.edge("when it is OVER", "SPEECH e0n", "here() = 0 asked 0");
    }

    private static void over() {
        E.promise(21, "over");
        E.edge("no NODES", "over() = STATE", "asked() = 0");
        E.edge("no NODES, and something was told", "ROW 0 6", "at(0, 0) = 1", "over() = STATE", "asked() = 6");
        E.edge("not at first", "SPEECH ne0x010", "over() = 0 asked 0");
        E.edge("at an END", "SPEECH ne0x010", "SAY 0", "over() = 1 asked 0");
        E.edge("at an OATH", "SPEECH no0x010", "SAY 0", "over() = 1 asked 0");
        for (String letter : new String[] {"n", "c", "w", "l"}) {
            E.edge("where it is MUTE: " + letter, "SPEECH n" + letter + "x010", "SAY 0", "over() = 1 asked 0");
            E.edge("not from where a WORD leads: " + letter, "SPEECH n" + letter + "nx010x120", "SAY 0", "over() = 0 asked 0");
        }
        E.edge("at once, an END", "SPEECH e0n", "over() = 1 asked 0");
        E.edge("at once, MUTE", "SPEECH ne0", "over() = 1 asked 0");
        E.edge("what is DONE tells nothing till it is OVER", "SPEECH nne0x010x120d1509", "begin(0) = 1", "SAY 0", "count(4) = 1", "over() = 0 asked 0", "SAY 1", "over() = 1 asked 4");
        E.rich("asked() becomes 0 if it is not OVER", "asked() = 7", "over() = 0 asked 0");
    }

    private static void gains() {
        E.edge("DONE in the last YEAR", "SPEECH nne3x010x120d2139", "begin(0) = 2", "SAY 0 1", "over() = 1 asked 8");
        E.edge("a YEAR is left: neither WORTH nor COST", "SPEECH nne3x010x120d3139", "begin(0) = 3", "SAY 0 1", "over() = 1 asked 0");
        E.edge("not BEGUN: neither WORTH nor COST", "SPEECH ne3x010d1939", "SAY 0", "over() = 1 asked 0");
        E.edge("lost: neither WORTH nor COST", "SPEECH le3x010d1939", "begin(0) = 1", "SAY 0", "over() = 1 asked 0");
        E.edge("a COMMA's YEAR brings nothing", "SPEECH ce3x010d1939", "begin(0) = 1", "SAY 0", "over() = 1 asked 0");
        E.edge("a WHISPER brings nothing", "SPEECH we3x010d1939", "begin(0) = 1", "SAY 0", "over() = 1 asked 0");
        E.edge("its MEANING", "SPEECH ne5x010d1257", "begin(0) = 1", "SAY 0", "over() = 1 asked 5");
        E.edge("another MEANING, one less", "SPEECH ne5x010d1247", "begin(0) = 1", "SAY 0", "over() = 1 asked -2");
        E.edge("another MEANING, one more", "SPEECH ne4x010d1257", "begin(0) = 1", "SAY 0", "over() = 1 asked -2");
        E.edge("MEANING 0", "SPEECH ne0x010d1207", "begin(0) = 1", "SAY 0", "over() = 1 asked 5");
        E.edge("the greatest COST, no WORTH", "SPEECH ne0x010d1900", "begin(0) = 1", "SAY 0", "over() = 1 asked -9");
        E.edge("no COST, the greatest WORTH", "SPEECH ne0x010d1009", "begin(0) = 1", "SAY 0", "over() = 1 asked 9");
        E.edge("at an OATH the WORTH twice, the COST once", "SPEECH no0x010d1307", "begin(0) = 1", "SAY 0", "over() = 1 asked 11");
        E.edge("at an OATH of another MEANING the COST once", "SPEECH no0x010d1317", "begin(0) = 1", "SAY 0", "over() = 1 asked -3");
        E.edge("where it is MUTE the COST alone", "SPEECH nnx010d1307", "begin(0) = 1", "SAY 0", "over() = 1 asked -3");
        E.edge("where it is MUTE at a LULL", "SPEECH nlx010d1307", "begin(0) = 1", "SAY 0", "over() = 1 asked -3");
        String four = "SPEECH nnnno0x010x120x230x340";
        E.edge("four DEEDS, the most", four + "d1009d1009d1009d1009", "begin(0) = 1", "SAY 0", "begin(1) = 1", "SAY 1", "begin(2) = 1", "SAY 2", "begin(3) = 1", "SAY 3", "over() = 1 asked 72");
        E.edge("four DEEDS, the least", four + "d1919d1919d1919d1919", "begin(0) = 1", "SAY 0", "begin(1) = 1", "SAY 1", "begin(2) = 1", "SAY 2", "begin(3) = 1", "SAY 3", "over() = 1 asked -36");
        E.edge("by the WORTH as it is now", "SPEECH ne0x010d1009", "begin(0) = 1", "SAY 0", "prize(0, 2) = 9", "over() = 1 asked 2");
    }

    private static void told() {
        E.promise(22, "told");
        E.each("told(-1) = BAD", "told(6) = BAD", "told(MIN) = BAD", "told(MAX) = BAD");
        E.edge("no NODES: none", "told(0) = 0", "ROW 0 IS", "count(6) = 1");
        E.edge("BAD, no NODES", "told(6) = BAD", "told(-1) = BAD");
        E.edge("nothing is SAID", "SPEECH nnx010", "told(5) = 0", "ROW 5 IS");
        E.rich("to a missing ROW", "told(5) = 2", "ROW 5 IS 0 2", "count(6) = 6");
        E.rich("to an empty ROW", "told(3) = 2", "ROW 3 IS 0 2");
        E.rich("to a full ROW, anew", "told(0) = 2", "ROW 0 IS 0 2");
        E.rich("a ROW made larger behind it has 0 there", "told(0) = 2", "row(0, 40) = 40", "at(0, 39) = 1 asked 0");
        E.edge("eight WORDS", "SPEECH " + EIGHT, "SAY 0 1 2 3 4 5 6 7", "told(0) = 8", "ROW 0 IS 0 1 2 3 4 5 6 7");
        E.edge("none where NODE 0 is an END", "SPEECH e0n", "told(0) = 0", "ROW 0 IS");
        E.edge("a ROW with ints, nothing is SAID", "SPEECH nnx010", "ROW 0 5 6", "told(0) = 0", "ROW 0 IS");
        E.rich("what is SAID later doesn't change it", "told(5) = 2", "SAY 6", "ROW 5 IS 0 2");
        E.rich("it may be changed", "told(5) = 2", "lay(5, 0, 9) = 1 asked 0", "told(3) = 2", "ROW 3 IS 0 2");
        E.rich("asked() stays", "told(5) = 2", "asked() = 7");
    }

    private static void keep() {
        E.promise(23, "keep");
        E.each("keep(-1) = BAD", "keep(3) = BAD", "keep(MIN) = BAD", "keep(MAX) = BAD");
        E.edge("no NODES", "keep(0) = STATE", "keep(2) = STATE", "count(8) = 0");
        E.edge("BAD ahead of STATE", "keep(3) = BAD", "keep(-1) = BAD");
        E.edge("nothing is SAID", "SPEECH nnx010", "keep(0) = 0", "count(8) = 1");
        E.edge("eight WORDS", "SPEECH " + EIGHT, "SAY 0 1 2 3 4 5 6 7", "keep(2) = 8", "undo(0) = 8", "on(2) = 8", "here() = 8 asked 8", "undo(7) = 1");
        E.rich("the third place", "keep(2) = 2", "count(8) = 3");
        E.rich("the first place again", "keep(0) = 2", "count(8) = 2", "undo(0) = 2", "on(0) = 2", "here() = 3 asked 2");
        E.rich("fewer WORDS over more", "keep(2) = 2", "undo(0) = 2", "keep(2) = 0", "SAY 1", "on(2) = 0", "here() = 0 asked 0");
        E.rich("others stay", "keep(2) = 2", "on(0) = 0", "on(1) = 1", "on(2) = 2");
        E.rich("THE SPEECH stays where it is", "keep(2) = 2", "here() = 3 asked 2", "deed(1, 4) = 1 asked 1", "count(3) = 2");
        E.edge("when it is OVER", "SPEECH ne0x010", "SAY 0", "keep(0) = 1", "undo(0) = 1", "on(0) = 1", "over() = 1");
        E.edge("where NODE 0 is an END", "SPEECH e0n", "keep(0) = 0", "on(0) = 0");
        E.rich("asked() stays", "keep(2) = 2", "asked() = 7");
    }

    private static void on() {
        E.promise(24, "on");
        E.each("on(-1) = BAD", "on(3) = BAD", "on(MIN) = BAD", "on(MAX) = BAD", "on(2) = NOTHING");
        E.edge("no NODES", "on(0) = NOTHING", "on(1) = NOTHING", "on(2) = NOTHING", "on(3) = BAD");
        E.edge("nothing is kept in the one, but in the other", "SPEECH nnx010", "keep(1) = 0", "on(0) = NOTHING", "on(2) = NOTHING", "on(1) = 0");
        E.rich("from more WORDS to none", "on(0) = 0", "here() = 0 asked 0", "deed(1, 4) = 1 asked 0", "begin(1) = 2");
        E.rich("from none to one", "undo(0) = 2", "on(1) = 1", "here() = 1 asked 1");
        E.rich("a DEED's YEARS as they were left", "on(1) = 1", "SAY 2", "deed(1, 4) = 1 asked 1", "SAY 6", "deed(1, 4) = 1 asked 2");
        E.rich("DONE no more", "SAY 6", "count(4) = 1", "on(1) = 1", "count(4) = 0", "deed(1, 4) = 1 asked 1");
        E.rich("DONE again", "SAY 6", "keep(2) = 3", "on(0) = 0", "on(2) = 3", "deed(1, 4) = 1 asked 2", "over() = 1 asked 17");
        E.edge("lost again", "SPEECH lnx010d1000", "begin(0) = 1", "SAY 0", "keep(0) = 1", "undo(0) = 1", "on(0) = 1", "deed(0, 4) = 1 asked 3");
        E.edge("lost no more", "SPEECH lnx010d1000", "begin(0) = 1", "keep(0) = 0", "SAY 0", "on(0) = 0", "deed(0, 4) = 1 asked 1");
        E.rich("twice", "on(1) = 1", "SAY 3", "on(1) = 1", "here() = 1 asked 1", "count(8) = 2");
        E.rich("undo() goes on from there", "on(1) = 1", "undo(0) = 1", "deed(1, 4) = 1 asked 1", "undo(1) = BAD");
        E.edge("undo() goes on from there, DEEDS as they were ahead of each WORD then", "SPEECH nnnx010x120d2000", "keep(1) = 0", "begin(0) = 2", "SAY 0", "keep(0) = 1",
            "on(1) = 0", "SAY 0", "on(0) = 1", "undo(0) = 1", "deed(0, 4) = 1 asked 1");
        E.edge("and not as they were ahead of WORDS that were kept elsewhere", "SPEECH nnnx010x120d2000", "SAY 0", "keep(0) = 1", "undo(0) = 1", "begin(0) = 2", "SAY 0", "keep(1) = 1",
            "on(0) = 1", "undo(0) = 1", "deed(0, 4) = 1 asked 0", "on(1) = 1", "undo(0) = 1", "deed(0, 4) = 1 asked 1");
        E.rich("what is SAID then doesn't change what is kept", "on(0) = 0", "SAY 1 4", "on(0) = 0", "told(5) = 0", "on(1) = 1", "told(5) = 1", "ROW 5 IS 0");
        E.rich("what is undone then doesn't either", "on(1) = 1", "undo(0) = 1", "SAY 1", "on(1) = 1", "told(5) = 1", "ROW 5 IS 0");
        E.rich("WORTHS stay as they are now", "prize(1, 3) = 9", "on(1) = 1", "deed(1, 3) = 1 asked 3", "deed(2, 3) = 1 asked 6");
        E.rich("none behind another SPEECH", "speech(0) = 9", "on(0) = NOTHING", "on(1) = NOTHING");
        E.rich("all behind a SPEECH that is refused", "speech(1) = STATE", "on(0) = 0", "on(1) = 1");
        E.rich("asked() stays", "on(1) = 1", "asked() = 7");
    }
}
