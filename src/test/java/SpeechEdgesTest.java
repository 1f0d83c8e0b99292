/** Boundary cases of promises 10 to 16: FAULTS, the SPEECH, its NODES, WORDS, DEEDS. */
public final class SpeechEdgesTest {
    private static final Edges E = new Edges();

    /** Nine NODES, fourteen WORDS, three DEEDS: all eighty bytes. */
    private static final String FULLEST = "nnnnnnnnn" + "x010x011x012x013" + "x120x121x122x123" + "x230x231x232x233" + "x780x789" + "d1000d5959d1111";
    private static final String FOURTEEN = "nnnnn" + "x010x011x012x013" + "x120x121x122x123" + "x230x231x232x233" + "x340x341";
    private static final String FOUR_DEEDS = "d1000d2111d3222d5959";

    public static void main(String[] args) {
        fault();
        faultsOfNodes();
        faultsOfWords();
        faultsOfDeeds();
        faultsOfTurns();
        faultsOfBlanks();
        speech();
        node();
        word();
        deed();
        mark();
        marksOfEachKind();
        prize();
        E.end(10, 16);
    }

    private static void fine(String name, String signs) {
        E.edge(name + ": '" + signs + "'", "TEXT 2 " + signs, "fault(2) = NONE");
    }

    private static void faulty(String name, String signs, int place) {
        E.edge(name + ": '" + signs + "'", "TEXT 2 " + signs, "fault(2) = " + place, "speech(2) = STATE", "count(0) = 0");
    }

    private static void fault() {
        E.promise(10, "fault");
        E.each("fault(-1) = BAD", "fault(4) = BAD", "fault(MIN) = BAD", "fault(MAX) = BAD", "fault(3) = NOTHING");
        E.edge("the first TEXT and the last", "TEXT 0 nn", "TEXT 3 nnz", "fault(0) = NONE", "fault(3) = 2");
        E.rich("the SPEECH stays as it is", "fault(1) = 2", "fault(2) = 0", "count(0) = 9", "count(3) = 2", "count(8) = 2", "here() = 3 asked 2");
        E.rich("also where there is none", "TEXT 1 nn", "fault(1) = NONE", "count(0) = 9", "count(3) = 2", "deed(1, 4) = 1 asked 1");
        E.rich("asked(), finding() stay", "fault(1) = 2", "asked() = 7", "finding() = 4");
        faulty("an empty TEXT", "", 0);
        faulty("one blank alone", " ", 1);
        faulty("blanks alone", "     ", 5);
        E.edge("eighty blanks alone", "text(2, 80) = 80", "fault(2) = 80", "speech(2) = STATE");
        fine("all eighty bytes", FULLEST);
        faulty("the last byte of eighty", FULLEST.substring(0, 79) + "z", 79);
        faulty("eighty bytes, and the end comes too early", " " + FULLEST.substring(0, 79), 80);
        faulty("the first of two is told", "nnx20 z", 3);
        faulty("also if the other one is nearer to its letter", "nnx01z d9", 5);
    }

    private static void faultsOfNodes() {
        faulty("one NODE alone", "n", 1);
        faulty("one END alone", "e0", 2);
        faulty("one NODE and blanks", "n  ", 3);
        fine("two NODES", "nn");
        fine("nine NODES", "nnnnnnnnn");
        fine("nine NODES with MEANINGS", "e0e1e2e3e4e5o0o5l");
        faulty("a tenth NODE", "nnnnnnnnnn", 9);
        faulty("a tenth NODE behind blanks", "nnnnnnnnn  n", 11);
        faulty("a tenth NODE that is an END", "nnnnnnnnne0", 9);
        faulty("a tenth NODE that is an OATH without a MEANING", "nnnnnnnnno", 9);
        for (char letter : "ncwl".toCharArray()) {
            fine("a letter of a NODE", letter + "" + letter);
            faulty("no figure behind such a letter", letter + "0n", 1);
            faulty("none behind the second one either", "n" + letter + "5", 2);
        }
        for (char letter : "eo".toCharArray()) {
            fine("the least MEANING", "n" + letter + "0");
            fine("the greatest MEANING", "n" + letter + "5");
            faulty("a MEANING too many", "n" + letter + "6", 2);
            faulty("the greatest figure", "n" + letter + "9", 2);
            faulty("the sign ahead of 0", "n" + letter + "/", 2);
            faulty("the sign behind 9", "n" + letter + ":", 2);
            faulty("a letter where the MEANING is due", "n" + letter + "n", 2);
            faulty("a blank where the MEANING is due", "n" + letter + " 0", 2);
            faulty("the end where the MEANING is due", "n" + letter, 2);
            faulty("two figures", "n" + letter + "00", 3);
            faulty("a MEANING too many at once", letter + "6n", 1);
        }
        for (char sign : "abfgijkmpqrstuvyz".toCharArray()) faulty("no letter of a NODE", "nn" + sign, 2);
        for (char sign : "NECWOLXD".toCharArray()) faulty("no capital", "nn" + sign, 2);
        for (char sign : "0159".toCharArray()) faulty("no figure in place of a letter", "nn" + sign, 2);
        faulty("no letter at once", "z", 0);
        faulty("no letter behind one NODE", "nz", 1);
        for (int sign : new int[] {0, 9, 10, 13, 31, 33, 95, 127, -128, -1, 160, 238}) {
            E.edge("byte " + sign + " is no blank and no letter", "TEXT 2 nn ", "put(2, 2, " + sign + ") = 1032", "fault(2) = 2");
        }
    }

    private static void faultsOfWords() {
        fine("no WORDS", "nn");
        fine("from NODE 0 to the next", "nnx010");
        fine("to the last NODE of nine", "nnnnnnnnnx080");
        fine("from the last but one of nine", "nnnnnnnnnx780");
        fine("from a COMMA, a WHISPER, a LULL", "cwlnx010x120x230");
        faulty("no figure: from", "nnxn", 3);
        faulty("the sign ahead of 0: from", "nnx/10", 3);
        faulty("the sign behind 9: from", "nnx:10", 3);
        faulty("a NODE that there is not: from", "nnx210", 3);
        faulty("a NODE that there is not of nine: from", "nnnnnnnnnx910", 10);
        faulty("an END from which", "ne0nx120", 5);
        faulty("an OATH from which", "no0nx120", 5);
        faulty("NODE 0 an END from which", "e0nx010", 4);
        faulty("the last NODE an END from which", "ne0x110", 4);
        faulty("no figure: to", "nnx0x", 4);
        faulty("the sign ahead of 0: to", "nnx0/0", 4);
        faulty("the sign behind 9: to", "nnx0:0", 4);
        faulty("a NODE that there is not: to", "nnx020", 4);
        faulty("a NODE that there is not of nine: to", "nnnnnnnnnx090", 11);
        faulty("of the same number", "nnnx110", 5);
        faulty("NODE 0 to itself", "nnx000", 4);
        faulty("of a smaller number", "nnnx100", 5);
        fine("of a number greater by one", "nnnx120");
        faulty("from the last NODE none leads: itself", "nnx110", 4);
        faulty("from the last NODE none leads: one less", "nnx100", 4);
        faulty("from the last NODE none leads: one that there is not", "nnx120", 4);
        faulty("no figure: the SOUND", "nnx01n", 5);
        faulty("the sign ahead of 0: the SOUND", "nnx01/", 5);
        faulty("the sign behind 9: the SOUND", "nnx01:", 5);
        fine("the least SOUND", "nnx010");
        fine("the greatest SOUND", "nnx019");
        faulty("a SOUND that there is from there", "nnx010x010", 9);
        faulty("also to another NODE", "nnnx010x020", 10);
        faulty("also the last of three", "nnx017x018x019x019", 17);
        faulty("also the first of three", "nnx017x018x019x017", 17);
        fine("the same SOUND from another NODE", "nnnx010x120");
        fine("another SOUND between the same two", "nnx010x011");
        faulty("two figures for a SOUND", "nnx0100", 6);
        faulty("a blank within: from", "nnx 010", 3);
        faulty("a blank within: to", "nnx0 10", 4);
        faulty("a blank within: the SOUND", "nnx01 0", 5);
        faulty("the end within: from", "nnx", 3);
        faulty("the end within: to", "nnx0", 4);
        faulty("the end within: the SOUND", "nnx01", 5);
        faulty("blanks and the end within: from", "nnx  ", 3);
        fine("four from one NODE", "nnx010x011x012x013");
        faulty("a NODE from which there are four", "nnx010x011x012x013x014", 19);
        faulty("also if the rest is wrong", "nnx010x011x012x013x0", 19);
        faulty("also to another NODE", "nnnx010x011x012x013x024", 20);
        fine("a fifth from another NODE", "nnnx010x011x012x013x120");
        faulty("a NODE from which there are four, and another", "nnnx010x011x120x012x013x014", 24);
        fine("fourteen", FOURTEEN);
        faulty("a fifteenth", FOURTEEN + "x342", 61);
        faulty("a fifteenth behind blanks", FOURTEEN + "  x342", 63);
        faulty("a fifteenth that is wrong in itself", FOURTEEN + "x", 61);
        faulty("a fifteenth from a NODE from which there are four", FOURTEEN + "x014", 61);
    }

    private static void faultsOfDeeds() {
        fine("no DEEDS", "nnx010");
        fine("a DEED without WORDS", "nnd1000");
        fine("the least of all", "nnx010d1000");
        fine("the greatest of all", "nnx010d5959");
        faulty("no YEARS", "nnd0000", 3);
        faulty("six YEARS", "nnd6000", 3);
        faulty("nine YEARS", "nnd9000", 3);
        faulty("the sign ahead of 0: YEARS", "nnd/000", 3);
        faulty("the sign behind 9: YEARS", "nnd:000", 3);
        faulty("a letter: YEARS", "nndd000", 3);
        faulty("the sign ahead of 0: COST", "nnd1/00", 4);
        faulty("the sign behind 9: COST", "nnd1:00", 4);
        faulty("a letter: COST", "nnd1n00", 4);
        faulty("the sign ahead of 0: MEANING", "nnd10/0", 5);
        faulty("a MEANING too many", "nnd1060", 5);
        faulty("the greatest figure: MEANING", "nnd1090", 5);
        faulty("the sign behind 9: MEANING", "nnd10:0", 5);
        faulty("the sign ahead of 0: WORTH", "nnd100/", 6);
        faulty("the sign behind 9: WORTH", "nnd100:", 6);
        faulty("a letter: WORTH", "nnd100d", 6);
        faulty("a figure behind the WORTH", "nnd10000", 7);
        faulty("a blank within: YEARS", "nnd 1000", 3);
        faulty("a blank within: COST", "nnd1 000", 4);
        faulty("a blank within: MEANING", "nnd10 00", 5);
        faulty("a blank within: WORTH", "nnd100 0", 6);
        faulty("the end within: YEARS", "nnd", 3);
        faulty("the end within: COST", "nnd1", 4);
        faulty("the end within: MEANING", "nnd10", 5);
        faulty("the end within: WORTH", "nnd100", 6);
        fine("a MEANING that no END has", "ne0d1050");
        fine("four", "nn" + FOUR_DEEDS);
        fine("four alike", "nnd1000d1000d1000d1000");
        faulty("a fifth", "nn" + FOUR_DEEDS + "d1000", 22);
        faulty("a fifth behind blanks", "nn" + FOUR_DEEDS + "  d1000", 24);
        faulty("a fifth that is wrong in itself", "nn" + FOUR_DEEDS + "d", 22);
        faulty("a fifth behind WORDS", "nnx010" + FOUR_DEEDS + "d1000", 26);
    }

    private static void faultsOfTurns() {
        faulty("a WORD ahead of its turn", "x010", 0);
        faulty("a WORD ahead of its turn, behind blanks", "  x010", 2);
        faulty("a DEED ahead of its turn", "d1000", 0);
        faulty("a DEED ahead of its turn, behind blanks", "  d1000", 2);
        faulty("a WORD behind one NODE alone", "nx010", 1);
        faulty("a WORD behind one NODE alone and blanks", "n  x010", 3);
        faulty("a WORD behind one END alone", "e0x010", 2);
        faulty("a DEED behind one NODE alone", "nd1000", 1);
        faulty("a DEED behind one NODE alone and blanks", "n  d1000", 3);
        faulty("a DEED behind one OATH alone", "o5d1000", 2);
        for (char letter : "ncwleo".toCharArray()) {
            faulty("a NODE behind a WORD", "nnx010" + letter, 6);
            faulty("a NODE behind a DEED", "nnd1000" + letter, 7);
            faulty("a NODE behind a WORD and blanks", "nnx010  " + letter + "0", 8);
        }
        faulty("a WORD behind a DEED", "nnd1000x010", 7);
        faulty("a WORD behind a DEED and blanks", "nnd1000  x010", 9);
        faulty("a WORD behind a WORD and a DEED", "nnx010d1000x011", 11);
        faulty("a WORD behind four DEEDS", "nn" + FOUR_DEEDS + "x010", 22);
        faulty("no letter behind a WORD", "nnx010z", 6);
        faulty("no letter behind a DEED", "nnd1000z", 7);
        faulty("no letter behind fourteen WORDS", FOURTEEN + "z", 61);
        faulty("no letter behind four DEEDS", "nn" + FOUR_DEEDS + "z", 22);
    }

    private static void faultsOfBlanks() {
        fine("none between", "nne0x010x121d1000d1000");
        fine("ahead", "    nn");
        fine("between NODES", "n   n");
        fine("between NODES that are ENDS", "e0   o5 n");
        fine("behind NODES", "nn   ");
        fine("between WORDS", "nn  x010   x011");
        fine("between DEEDS", "nn d1000    d1000");
        fine("behind WORDS", "nnx010   ");
        fine("behind DEEDS", "nnd1000   ");
        fine("everywhere", "  n  e0  x010  d1000  ");
        E.edge("as many as there can be ahead", "text(2, 80) = 80", "put(2, 78, 'n') = 1032", "put(2, 79, 'n') = 1032", "fault(2) = NONE");
        E.edge("as many as there can be behind", "text(2, 80) = 80", "put(2, 0, 'n') = 1032", "put(2, 1, 'n') = 1032", "fault(2) = NONE");
        E.edge("as many as there can be between", "text(2, 80) = 80", "put(2, 0, 'n') = 1032", "put(2, 79, 'n') = 1032", "fault(2) = NONE");
    }

    private static void speech() {
        E.promise(11, "speech");
        E.each("speech(-1) = BAD", "speech(4) = BAD", "speech(MIN) = BAD", "speech(MAX) = BAD");
        E.each("speech(3) = NOTHING", "speech(1) = STATE", "speech(2) = STATE");
        E.edge("NOTHING, not STATE, where there is no TEXT", "speech(0) = NOTHING");
        E.edge("two NODES", "TEXT 0 nn", "speech(0) = 2", "count(0) = 2", "count(1) = 0", "count(2) = 0");
        E.edge("nine NODES", "TEXT 0 nnnnnnnnn", "speech(0) = 9", "count(0) = 9");
        E.edge("all eighty bytes", "TEXT 3 " + FULLEST, "speech(3) = 9", "count(1) = 14", "count(2) = 3");
        E.edge("fourteen WORDS", "TEXT 3 " + FOURTEEN, "speech(3) = 5", "count(1) = 14");
        E.edge("four DEEDS", "TEXT 3 nn" + FOUR_DEEDS, "speech(3) = 2", "count(2) = 4");
        E.edge("by the first TEXT and the last", "TEXT 0 nn", "TEXT 3 nnn", "speech(0) = 2", "speech(3) = 3");
        E.rich("anew: nothing is SAID", "speech(0) = 9", "count(3) = 0", "here() = 0 asked 0");
        E.rich("anew: nothing is BEGUN", "speech(0) = 9", "deed(1, 4) = 1 asked 0", "begin(1) = 2");
        E.rich("anew: nothing is DONE", "SAY 6", "count(4) = 1", "speech(0) = 9", "count(4) = 0", "deed(1, 4) = 1 asked 0");
        E.rich("anew: nothing is lost", "on(0) = 0", "SAY 0 2 10", "begin(2) = 3", "SAY 8", "deed(2, 4) = 1 asked 3", "speech(0) = 9", "deed(2, 4) = 1 asked 0");
        E.rich("anew: kept YEARS go", "keep(2) = 2", "speech(0) = 9", "on(0) = NOTHING", "on(1) = NOTHING", "on(2) = NOTHING", "count(8) = 0");
        E.rich("anew: WORTHS are those of the TEXT", "speech(0) = 9", "deed(2, 3) = 1 asked 7");
        E.rich("ROWS and TEXTS stay", "speech(0) = 9", "count(6) = 5", "count(7) = 3", "ROW 1 IS 10 8", "fault(1) = 2");
        E.rich("asked(), upper(), lower(), finding() stay", "speech(0) = 9", "asked() = 7", "upper() = 2", "lower() = 3", "finding() = 4", "findings(4) = 1");
        E.rich("a smaller one leaves none of the larger", "TEXT 3 nn", "speech(3) = 2", "node(2, 0) = BAD", "word(0, 0) = BAD", "deed(0, 0) = BAD",
            "node(0, 1) = 1 asked 0", "count(5) = 0", "worst() = 0 asked NONE", "over() = 1 asked 0");
        E.rich("a refused one leaves the one before", "speech(1) = STATE", "count(0) = 9", "count(3) = 2", "on(1) = 1");
        E.rich("its TEXT may change behind it", "TEXT 0 nn", "count(0) = 9", "say(6) = 6");
        behindAnother();
        E.edge("NODE 0 an END: it is OVER at once", "SPEECH e4nd1045", "over() = 1 asked 0", "here() = 0 asked 0", "begin(0) = STATE", "lots(8, 1) = 0");
        E.edge("NODE 0 an OATH: it is OVER at once", "SPEECH o4nd1045", "over() = 1 asked 0", "begin(0) = STATE", "years() = 0 asked 0");
        E.edge("NODE 0 MUTE: it is OVER at once", "SPEECH ne0d1045", "over() = 1 asked 0", "begin(0) = STATE", "years() = NONE");
    }

    /** What was worked out of one SPEECH is not told of the next. */
    private static void behindAnother() {
        String longer = "SPEECH nnnnnnne0e2x010x120x230x340x450x560x670x681d1109";
        String shorter = "SPEECH nne1x010x120d1119";
        E.edge("how many SENTENCES behind another SPEECH", longer, shorter, "node(0, 2) = 1 asked 1", "node(1, 2) = 1 asked 1", "node(2, 2) = 1 asked 1");
        E.edge("MEANINGS behind another SPEECH", longer, shorter, "node(0, 3) = 1 asked 2", "node(2, 3) = 1 asked 2", "odds(0) = 1 by 0/1", "odds(1) = 1 by 1/1");
        E.edge("YEARS behind another SPEECH", longer, shorter, "years() = 2 asked 2", "SAY 0 1", "years() = 0 asked 0");
        E.edge("just so many YEARS behind another SPEECH", longer, shorter, "just(7) = 0 asked NONE", "just(2) = 1 asked 0", "SAY 0 1", "just(5) = 0 asked NONE", "just(0) = 1 asked NONE");
        E.edge("how soon it is known behind another SPEECH", longer, "known() = 7", shorter, "known() = 0", "SAY 0 1", "known() = 0");
        E.edge("what is sure behind another SPEECH", longer, "worst() = 0 asked NONE", shorter, "worst() = 8 asked 0", "SPEECH nne0x010x120d1119", "worst() = 0 asked NONE");
        E.edge("what is hoped for behind another SPEECH", longer, "hopes() = 1 asked 0 by 7/2", shorter, "hopes() = 1 asked 0 by 8/1", "SPEECH nne0x010x120d1119", "hopes() = 1 asked NONE by 0/1");
        E.edge("WORDS from a WHISPER behind another SPEECH", "SPEECH we0e0e0x010x021x032", "mark(0, 3) = 3", "SPEECH we0e0e0x010", "mark(0, 3) = 1");
        E.edge("DEEDS of an OATH's MEANING behind another SPEECH", "SPEECH no0d1000d1000", "mark(1, 4) = 2", "SPEECH no0d1000", "mark(1, 4) = 1", "SPEECH no0", "mark(1, 4) = 0");
        E.edge("DEEDS' YEARS behind another SPEECH", "SPEECH nld1000d5000", "mark(1, 5) = 5", "SPEECH nld1000", "mark(1, 5) = 1");
    }

    private static void node() {
        E.promise(12, "node");
        E.each("node(-1, 0) = BAD", "node(9, 0) = BAD", "node(MIN, 0) = BAD", "node(MAX, 0) = BAD");
        E.each("node(0, -1) = BAD", "node(0, 4) = BAD", "node(0, MIN) = BAD", "node(0, MAX) = BAD");
        E.edge("no NODES at first", "node(0, 0) = BAD", "node(0, 3) = BAD");
        E.edge("two NODES: the last is 1", "SPEECH nc", "node(1, 0) = 1 asked 2", "node(2, 0) = BAD");
        E.edge("nine NODES: the last is 8", "SPEECH nnnnnnnnl", "node(8, 0) = 1 asked 5", "node(9, 0) = BAD");
        E.edge("as they come, whatever their KINDS", "SPEECH lo2we1cn", "node(0, 0) = 1 asked 5", "node(1, 0) = 1 asked 4", "node(2, 0) = 1 asked 3", "node(3, 0) = 1 asked 1",
            "node(4, 0) = 1 asked 2", "node(5, 0) = 1 asked 0");
        String kinds = "SPEECH ne5cwo5l";
        for (int x = 0; x < 6; x++) E.edge("KIND " + x, kinds, "node(" + x + ", 0) = 1 asked " + x);
        E.edge("no WORD leads from an END", "SPEECH ne0x010", "node(1, 1) = 1 asked 0");
        E.edge("no WORD leads from a MUTE one", "SPEECH nnx010", "node(1, 1) = 1 asked 0");
        E.edge("WORD 0 is bit 0", "SPEECH nnx010", "node(0, 1) = 1 asked 1");
        E.edge("WORD 13 is bit 13", "SPEECH " + FOURTEEN, "node(3, 1) = 1 asked 12288", "node(0, 1) = 1 asked 15");
        E.edge("WORDS from one NODE needn't be neighbours", "SPEECH nnnx010x120x021", "node(0, 1) = 1 asked 5", "node(1, 1) = 1 asked 2");
        E.edge("at an END the empty SENTENCE alone", "SPEECH ne0", "node(1, 2) = 1 asked 1");
        E.edge("at an OATH the empty SENTENCE alone", "SPEECH no0", "node(1, 2) = 1 asked 1");
        E.edge("none ends where it is MUTE", "SPEECH nnx010", "node(1, 2) = 1 asked 0", "node(0, 2) = 1 asked 0");
        E.edge("what ends MUTE doesn't count", "SPEECH nne0x010x021", "node(0, 2) = 1 asked 1");
        E.edge("two WORDS between the same two are two SENTENCES", "SPEECH ne0x010x011", "node(0, 2) = 1 asked 2");
        E.edge("as many as there can be: 3 3 3 3 2", "SPEECH nnnnne0" + "x010x011x012" + "x120x121x122" + "x230x231x232" + "x340x341x342" + "x450x451",
            "node(0, 2) = 1 asked 162", "node(1, 2) = 1 asked 54", "node(4, 2) = 1 asked 2");
        E.edge("MEANING 0 is bit 0", "SPEECH ne0x010", "node(0, 3) = 1 asked 1", "node(1, 3) = 1 asked 1");
        E.edge("MEANING 5 is bit 5", "SPEECH no5x010", "node(0, 3) = 1 asked 32", "node(1, 3) = 1 asked 32");
        E.edge("all six", "SPEECH nne0e1e2e3o4o5x010x120x131x142x153x061x072", "node(0, 3) = 1 asked 63", "node(1, 3) = 1 asked 15");
        E.edge("none where it is MUTE", "SPEECH nnx010", "node(0, 3) = 1 asked 0", "node(1, 3) = 1 asked 0");
        E.edge("an END that can't come", "SPEECH ne0e1x010", "node(0, 3) = 1 asked 1");
        E.rich("whatever was SAID", "node(0, 2) = 1 asked 8", "node(0, 3) = 1 asked 7");
    }

    private static void word() {
        E.promise(13, "word");
        E.each("word(-1, 0) = BAD", "word(11, 0) = BAD", "word(MIN, 0) = BAD", "word(MAX, 0) = BAD");
        E.each("word(0, -1) = BAD", "word(0, 3) = BAD", "word(0, MIN) = BAD", "word(0, MAX) = BAD");
        E.edge("no NODES at first", "word(0, 0) = BAD", "word(0, 2) = BAD");
        E.edge("a SPEECH without WORDS", "SPEECH nn", "word(0, 0) = BAD");
        E.edge("one WORD: the last is 0", "SPEECH nnx019", "word(0, 0) = 1 asked 0", "word(1, 0) = BAD");
        E.edge("fourteen: the last is 13", "SPEECH " + FOURTEEN, "word(13, 0) = 1 asked 3", "word(13, 1) = 1 asked 4", "word(13, 2) = 1 asked 1", "word(14, 0) = BAD");
        E.edge("from the least NODE to the greatest", "SPEECH nnnnnnnnnx080", "word(0, 0) = 1 asked 0", "word(0, 1) = 1 asked 8");
        E.edge("from the last but one", "SPEECH nnnnnnnnnx780", "word(0, 0) = 1 asked 7", "word(0, 1) = 1 asked 8");
        E.edge("as they come, whichever NODES they lead from", "SPEECH nne0x120x010", "word(0, 0) = 1 asked 1", "word(0, 1) = 1 asked 2", "word(1, 0) = 1 asked 0", "word(1, 1) = 1 asked 1",
            "node(0, 1) = 1 asked 2", "node(1, 1) = 1 asked 1", "say(0) = STATE", "say(1) = 1", "say(0) = 2");
        E.edge("the least SOUND and the greatest", "SPEECH nnx010x019", "word(0, 2) = 1 asked 0", "word(1, 2) = 1 asked 9");
    }

    private static void deed() {
        E.promise(14, "deed");
        E.each("deed(-1, 0) = BAD", "deed(3, 0) = BAD", "deed(MIN, 0) = BAD", "deed(MAX, 0) = BAD");
        E.each("deed(0, -1) = BAD", "deed(0, 5) = BAD", "deed(0, MIN) = BAD", "deed(0, MAX) = BAD");
        E.edge("no NODES at first", "deed(0, 0) = BAD", "deed(0, 4) = BAD");
        E.edge("a SPEECH without DEEDS", "SPEECH nnx010", "deed(0, 0) = BAD");
        E.edge("four: the last is 3", "SPEECH nn" + FOUR_DEEDS, "deed(3, 0) = 1 asked 5", "deed(4, 0) = BAD");
        E.edge("the least of all", "SPEECH nnd1000", "deed(0, 0) = 1 asked 1", "deed(0, 1) = 1 asked 0", "deed(0, 2) = 1 asked 0", "deed(0, 3) = 1 asked 0");
        E.edge("the greatest of all", "SPEECH nnd5959", "deed(0, 0) = 1 asked 5", "deed(0, 1) = 1 asked 9", "deed(0, 2) = 1 asked 5", "deed(0, 3) = 1 asked 9");
        E.edge("as they come", "SPEECH nnd5000d1911d2122", "deed(0, 0) = 1 asked 5", "deed(1, 0) = 1 asked 1", "deed(1, 1) = 1 asked 9", "deed(2, 2) = 1 asked 2", "deed(2, 3) = 1 asked 2");
        E.edge("not BEGUN", "SPEECH nnx010d1000", "deed(0, 4) = 1 asked 0");
        E.edge("not BEGUN by a YEAR that goes by", "SPEECH nnx010d1000", "SAY 0", "deed(0, 4) = 1 asked 0");
        E.edge("BEGUN, no YEAR went by", "SPEECH nnx010d1000", "begin(0) = 1", "deed(0, 4) = 1 asked 1");
        E.edge("DONE with the only YEAR", "SPEECH nnx010d1000", "begin(0) = 1", "SAY 0", "deed(0, 4) = 1 asked 2");
        E.edge("BEGUN with one YEAR left of two", "SPEECH nnnx010x120d2000", "begin(0) = 2", "SAY 0", "deed(0, 4) = 1 asked 1");
        E.edge("DONE with the second YEAR of two", "SPEECH nnnx010x120d2000", "begin(0) = 2", "SAY 0 1", "deed(0, 4) = 1 asked 2");
        String chain = "SPEECH nnnnnnnx010x120x230x340x450x560";
        E.edge("BEGUN with one YEAR left of five", chain + "d5000", "begin(0) = 5", "SAY 0 1 2 3", "deed(0, 4) = 1 asked 1");
        E.edge("DONE with the fifth YEAR of five", chain + "d5000", "begin(0) = 5", "SAY 0 1 2 3 4", "deed(0, 4) = 1 asked 2");
        E.edge("DONE stays DONE", chain + "d1000", "begin(0) = 1", "SAY 0 1 2 3 4 5", "deed(0, 4) = 1 asked 2");
        E.edge("in a COMMA's YEAR nothing is done", "SPEECH cnnx010x120d1000", "begin(0) = 1", "SAY 0", "deed(0, 4) = 1 asked 1", "SAY 1", "deed(0, 4) = 1 asked 2");
        E.edge("from a WHISPER no YEAR goes by", "SPEECH wnnx010x120d1000", "begin(0) = 1", "SAY 0", "deed(0, 4) = 1 asked 1", "SAY 1", "deed(0, 4) = 1 asked 2");
        E.edge("in a LULL's YEAR it is lost", "SPEECH lnnx010x120d1000", "begin(0) = 1", "SAY 0", "deed(0, 4) = 1 asked 3", "SAY 1", "deed(0, 4) = 1 asked 3");
        E.edge("in a LULL's YEAR it is lost with its last YEAR left", "SPEECH nlnx010x120d2000", "begin(0) = 2", "SAY 0", "deed(0, 4) = 1 asked 1", "SAY 1", "deed(0, 4) = 1 asked 3");
        E.edge("one that is DONE is not lost", "SPEECH nlnx010x120d1000", "begin(0) = 1", "SAY 0 1", "deed(0, 4) = 1 asked 2");
        E.edge("to a COMMA, a WHISPER, a LULL it is worked at: the NODE from which it leads tells",
            "SPEECH ncwlx010x021x032d1000d1000d1000", "begin(0) = 1", "SAY 0", "deed(0, 4) = 1 asked 2", "undo(0) = 1", "SAY 1", "deed(0, 4) = 1 asked 2",
            "undo(0) = 1", "SAY 2", "deed(0, 4) = 1 asked 2");
        E.edge("its YEARS are told whatever is left", "SPEECH nnnx010x120d2000", "begin(0) = 2", "SAY 0", "deed(0, 0) = 1 asked 2", "SAY 1", "deed(0, 0) = 1 asked 2");
        E.edge("the WORTH is that of prize()", "SPEECH nnd5959", "prize(0, 0) = 9", "deed(0, 3) = 1 asked 0");
        E.edge("others stay as they are", "SPEECH nnx010d1000d1000d1000", "begin(1) = 1", "SAY 0", "deed(0, 4) = 1 asked 0", "deed(1, 4) = 1 asked 2", "deed(2, 4) = 1 asked 0");
    }

    private static void mark() {
        E.promise(15, "mark");
        E.each("mark(-1, 1) = BAD", "mark(9, 1) = BAD", "mark(MIN, 1) = BAD", "mark(MAX, 1) = BAD");
        E.each("mark(4, 0) = BAD", "mark(4, 6) = BAD", "mark(4, -1) = BAD", "mark(4, MIN) = BAD", "mark(4, MAX) = BAD");
        E.each("mark(0, 0) = BAD", "mark(0, 6) = BAD");
        E.rich("no such NODE is BAD, not UNLIKE", "mark(9, 5) = BAD");
        E.edge("no NODES at first", "mark(0, 1) = BAD");
        String kinds = "SPEECH ne3cwo4l";
        int[][] tells = {{}, {3}, {0}, {0}, {4, 0}, {0, 0}};
        for (int x = 0; x < 6; x++) {
            for (int kind = 1; kind <= 5; kind++) {
                boolean is = x == kind || x == 4 && kind == 1 || x == 5 && kind == 2;
                String due = is ? "" + tells[x][x == kind && x >= 4 ? 1 : 0] : "UNLIKE";
                E.edge("a NODE of KIND " + x + " asked as of KIND " + kind, kinds, "mark(" + x + ", " + kind + ") = " + due);
            }
        }
        E.rich("asked() stays", "mark(4, 1) = 0", "asked() = 7");
    }

    private static void marksOfEachKind() {
        E.edge("an END of the least MEANING", "SPEECH ne0", "mark(1, 1) = 0");
        E.edge("an END of the greatest MEANING", "SPEECH ne5", "mark(1, 1) = 5");
        E.edge("an OATH as an END", "SPEECH no5", "mark(1, 1) = 5");
        E.edge("no WORD leads to a COMMA", "SPEECH cnx010", "mark(0, 2) = 0");
        E.edge("two WORDS from one NODE to a COMMA", "SPEECH ncx010x011", "mark(1, 2) = 2");
        E.edge("fourteen WORDS to a COMMA", "SPEECH nnnncx040x041x042x043x140x141x142x143x240x241x242x243x340x341", "mark(4, 2) = 14");
        E.edge("WORDS to a LULL as to a COMMA", "SPEECH nnlnx020x120x230", "mark(2, 2) = 2");
        E.edge("no END is one WORD from a WHISPER", "SPEECH wne0x010x120", "mark(0, 3) = 0");
        E.edge("a WHISPER that is MUTE", "SPEECH nw", "mark(1, 3) = 0");
        E.edge("an OATH is an END", "SPEECH wo0x010", "mark(0, 3) = 1");
        E.edge("one END by two WORDS is one NODE", "SPEECH we0x010x011", "mark(0, 3) = 1");
        E.edge("four ENDS, though of one MEANING", "SPEECH we0e0e0o0x010x021x032x043", "mark(0, 3) = 4");
        E.edge("no DEED is of an OATH's MEANING", "SPEECH no0d1010", "mark(1, 4) = 0");
        E.edge("all four DEEDS are", "SPEECH no0d1000d1000d1000d1000", "mark(1, 4) = 4");
        E.edge("one of four is, the last", "SPEECH no5d1040d1030d1000d1050", "mark(1, 4) = 1");
        E.edge("DEEDS that are DONE are of it too", "SPEECH no0x010d1000", "begin(0) = 1", "SAY 0", "mark(1, 4) = 1");
        E.edge("a LULL and no DEEDS", "SPEECH nl", "mark(1, 5) = 0");
        E.edge("a LULL and DEEDS of the fewest YEARS", "SPEECH nld1000", "mark(1, 5) = 1");
        E.edge("a LULL and DEEDS of the most YEARS, the first", "SPEECH nld5000d1000", "mark(1, 5) = 5");
        E.edge("a LULL and DEEDS of the most YEARS, the last", "SPEECH nld1000d2000d3000d5000", "mark(1, 5) = 5");
        E.edge("a DEED that is BEGUN is not DONE", "SPEECH nlnx010x121d2000d1000", "begin(0) = 2", "mark(1, 5) = 2");
        E.edge("one that is DONE doesn't count", "SPEECH nlnx010x121d1000", "begin(0) = 1", "SAY 0", "mark(1, 5) = 0");
        E.edge("one that is lost doesn't count", "SPEECH nlnx010x121d3000", "begin(0) = 3", "SAY 0 1", "mark(1, 5) = 0");
        E.edge("one that is not lost any more counts", "SPEECH nlnx010x121d3000", "begin(0) = 3", "SAY 0 1", "undo(1) = 1", "mark(1, 5) = 3");
        E.edge("behind a DONE one the next", "SPEECH nlnx010x121d1000d1000", "begin(0) = 1", "SAY 0", "mark(1, 5) = 1");
    }

    private static void prize() {
        E.promise(16, "prize");
        E.each("prize(-1, 1) = BAD", "prize(3, 1) = BAD", "prize(MIN, 1) = BAD", "prize(MAX, 1) = BAD");
        E.each("prize(0, -1) = BAD", "prize(0, 10) = BAD", "prize(0, MIN) = BAD", "prize(0, MAX) = BAD");
        E.edge("no NODES at first", "prize(0, 1) = BAD");
        E.edge("a SPEECH without DEEDS", "SPEECH nn", "prize(0, 1) = BAD");
        E.rich("the least WORTH", "prize(0, 0) = 5", "deed(0, 3) = 1 asked 0");
        E.rich("the greatest WORTH", "prize(0, 9) = 5", "deed(0, 3) = 1 asked 9");
        E.rich("the same WORTH", "prize(0, 5) = 5", "deed(0, 3) = 1 asked 5");
        E.rich("what it was by the prize ahead", "prize(0, 0) = 5", "prize(0, 9) = 0", "prize(0, 1) = 9");
        E.rich("other DEEDS stay", "prize(1, 4) = 9", "deed(0, 3) = 1 asked 5", "deed(2, 3) = 1 asked 6");
        E.edge("the last DEED of four", "SPEECH nn" + FOUR_DEEDS, "prize(3, 1) = 9", "prize(4, 1) = BAD");
        E.rich("of one that is BEGUN", "prize(1, 8) = 9", "SAY 6", "over() = 1 asked 15");
        E.rich("when it is OVER", "SAY 6", "over() = 1 asked 17", "prize(1, 0) = 9", "over() = 1 asked -1", "worst() = -1");
        E.rich("it doesn't BEGIN a DEED anew", "prize(1, 8) = 9", "deed(1, 4) = 1 asked 1");
        E.edge("worst() goes by it at once", "SPEECH ne0x010d1204", "worst() = 2 asked 0", "prize(0, 9) = 4", "worst() = 7 asked 0");
        E.edge("hopes() goes by it at once", "SPEECH ne0x010d1204", "hopes() = 1 by 2/1", "prize(0, 9) = 4", "hopes() = 1 by 7/1");
        E.edge("brings(), knows() go by it at once", "SPEECH ne0x010d1204", "ROW 0 0", "brings(0) = 1 asked 2", "knows(0) = 1 asked 2",
            "prize(0, 9) = 4", "brings(0) = 1 asked 7", "knows(0) = 1 asked 7");
        E.rich("asked() stays", "prize(0, 0) = 5", "asked() = 7");
    }
}
