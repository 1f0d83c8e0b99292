import java.util.Arrays;

/** Boundary cases of promises 1 to 9: a new object, ROWS, and TEXTS. */
public final class RowEdgesTest {
    private static final Edges E = new Edges();

    /** Of each sort of call one, with what is due of it where a SPEECH is at NODE 0 and ROW 0 has a 0. */
    private static final String[] LAST = {
        "row(5, 40) = 40", "lay(0, 0, 1) = 1", "at(0, 0) = 1", "tear(0) = 1", "copy(0, 0, 0, 0, 1) = 1", "mean(0) = 1", "text(1, 80) = 80", "put(0, 0, 0) = 1110",
        "fault(0) = NONE", "speech(0) = 2", "node(1, 3) = 1", "word(0, 2) = 1", "deed(0, 3) = 1", "mark(1, 1) = 0", "prize(0, 5) = 9",
        "say(0) = 1", "begin(0) = 1", "undo(0) = 0", "here() = 0", "over() = 0", "told(1) = 0", "keep(2) = 0",
        "odds(0) = 1", "years() = 1", "just(1) = 1", "known() = 0", "tell() = 0", "worst() = 7", "hopes() = 1", "brings(0) = 1", "knows(0) = 1",
        "heard(0) = 1", "slips(0) = 1", "first(0, 1) = 1", "least(0) = 0", "lots(8, 1) = 1", "asked() = 0", "upper() = 0", "lower() = 1", "count(8) = 0", "finding() = 0",
        "findings(5) = 0", "DIGEST 2 1 1 0 0 1 1 1 0  0 1 1 1  1 0 1 1  0 1 0  1 2 0 9 0  -1*3  1 0 -1*5  12 110 101 48 120 48 49 48 100 49 50 48 57 -1*3",
    };

    public static void main(String[] args) {
        newObject();
        row();
        lay();
        at();
        tear();
        copy();
        mean();
        text();
        put();
        E.end(1, 9);
    }

    private static void newObject() {
        E.promise(1, "a new object");
        for (int r = 0; r < 6; r++) E.edge("ROW " + r + " is missing", "at(" + r + ", 0) = NOTHING");
        for (int t = 0; t < 4; t++) E.edge("TEXT " + t + " is missing", "fault(" + t + ") = NOTHING");
        for (int k = 0; k < 3; k++) E.edge("no YEARS are kept in place " + k, "on(" + k + ") = NOTHING");
        E.edge("no ROWS are counted", "count(6) = 0");
        E.edge("no TEXTS are counted", "count(7) = 0");
        E.edge("no NODES", "count(0) = 0", "node(0, 0) = BAD", "here() = STATE");
        E.edge("no WORDS", "count(1) = 0", "word(0, 0) = BAD", "say(0) = BAD");
        E.edge("no DEEDS", "count(2) = 0", "deed(0, 0) = BAD", "begin(0) = BAD", "prize(0, 0) = BAD");
        E.edge("nothing is SAID", "count(3) = 0", "undo(0) = 0", "undo(1) = BAD");
        E.edge("nothing is DONE", "count(4) = 0");
        E.edge("no ENDS", "count(5) = 0");
        E.edge("no kept YEARS", "count(8) = 0");
        E.edge("nothing was told", "asked() = 0", "upper() = 0", "lower() = 1");
        E.edge("nothing was found", "finding() = 0", "findings(1) = 0", "findings(2) = 0", "findings(3) = 0", "findings(4) = 0", "findings(5) = 0");
        E.edge("its digest", "DIGEST 0*9 -1*3 -1*6 -1*4");
        for (String call : LAST) E.edge("it is still used for its 512th call: " + call, aheadOf(call));
    }

    /** A SPEECH in fourteen calls, a ROW of one place, a call over and over, and this one as the 512th. */
    private static String[] aheadOf(String call) {
        String[] steps = new String[499];
        Arrays.fill(steps, "here() = 0");
        steps[0] = "SPEECH ne0x010d1209";
        steps[1] = "row(0, 1) = 1";
        steps[498] = call;
        return steps;
    }

    private static void row() {
        E.promise(2, "row");
        E.edge("the first ROW is 0", "row(0, 3) = 3", "ROW 0 IS 0 0 0");
        E.edge("the last ROW is 5", "row(5, 3) = 3", "ROW 5 IS 0 0 0");
        E.each("row(-1, 3) = BAD", "row(6, 3) = BAD", "row(MIN, 3) = BAD", "row(MAX, 3) = BAD");
        E.edge("none at all is a ROW", "row(2, 0) = 0", "count(6) = 1", "at(2, 0) = BEYOND");
        E.edge("one", "row(2, 1) = 1", "ROW 2 IS 0");
        E.edge("39", "row(2, 39) = 39", "at(2, 38) = 1", "at(2, 39) = BEYOND");
        E.edge("40 are the most", "row(2, 40) = 40", "at(2, 39) = 1 asked 0", "at(2, 40) = BEYOND");
        E.each("row(0, 41) = BAD", "row(0, MAX) = BAD", "row(0, -1) = SIZE", "row(0, MIN) = SIZE");
        E.each("row(5, 41) = BAD", "row(5, -1) = SIZE", "row(3, 41) = BAD", "row(3, -1) = SIZE");
        E.rich("no such ROW is BAD ahead of SIZE", "row(6, -1) = BAD");
        E.rich("no such ROW, too many", "row(-1, 41) = BAD");
        E.edge("a refused one doesn't come to be there", "row(1, 41) = BAD", "row(1, -1) = SIZE", "at(1, 0) = NOTHING", "count(6) = 0");
        E.edge("a refused one stays as it was", "ROW 1 8 9", "row(1, 41) = BAD", "row(1, -1) = SIZE", "ROW 1 IS 8 9");
        E.edge("anew of the same size: 0 again", "ROW 1 8 9", "row(1, 2) = 2", "ROW 1 IS 0 0");
        E.edge("anew, smaller", "ROW 1 7 8 9", "row(1, 1) = 1", "ROW 1 IS 0");
        E.edge("smaller and larger again: 0 throughout", "ROW 1 7 8 9", "row(1, 1) = 1", "row(1, 3) = 3", "ROW 1 IS 0 0 0");
        E.edge("a full one anew: 0 throughout", "ROW 1 9*40", "row(1, 40) = 40", "mean(1) = 1 asked 0", "at(1, 0) = 1 asked 0", "at(1, 39) = 1 asked 0");
        E.edge("anew without places", "ROW 1 7 8 9", "row(1, 0) = 0", "ROW 1 IS", "mean(1) = NOUGHT");
        E.edge("other ROWS stay", "ROW 0 1", "ROW 2 3", "row(1, 40) = 40", "ROW 0 IS 1", "ROW 2 IS 3");
        E.edge("all six", "row(0, 40) = 40", "row(1, 40) = 40", "row(2, 40) = 40", "row(3, 40) = 40", "row(4, 40) = 40", "row(5, 40) = 40",
            "count(6) = 6", "row(6, 40) = BAD");
    }

    private static void lay() {
        E.promise(3, "lay");
        E.each("lay(-1, 0, 1) = BAD", "lay(6, 0, 1) = BAD", "lay(MIN, 0, 1) = BAD", "lay(MAX, 0, 1) = BAD");
        E.rich("a missing ROW", "lay(5, 0, 1) = NOTHING", "at(5, 0) = NOTHING");
        E.rich("an empty ROW has no place 0", "lay(3, 0, 1) = BEYOND");
        E.rich("the first ROW", "lay(0, 0, 1) = 1 asked 5", "at(0, 0) = 1 asked 1");
        E.edge("the last ROW", "row(5, 1) = 1", "lay(5, 0, 1) = 1 asked 0", "ROW 5 IS 1");
        E.rich("the first place", "lay(1, 0, 4) = 1 asked 10", "ROW 1 IS 4 8");
        E.rich("the last place", "lay(1, 1, 4) = 1 asked 8", "ROW 1 IS 10 4");
        E.rich("the last place of a full one", "lay(0, 39, 4) = 1 asked 7", "at(0, 39) = 1 asked 4", "at(0, 38) = 1 asked 0");
        E.each("lay(1, 2, 1) = BEYOND", "lay(1, -1, 1) = BEYOND", "lay(0, 40, 1) = BEYOND", "lay(1, MIN, 1) = BEYOND", "lay(1, MAX, 1) = BEYOND");
        E.edge("the least int", "row(0, 1) = 1", "lay(0, 0, MIN) = 1 asked 0", "lay(0, 0, 0) = 1 asked MIN");
        E.edge("the greatest int", "row(0, 1) = 1", "lay(0, 0, MAX) = 1 asked 0", "lay(0, 0, 0) = 1 asked MAX");
        E.edge("the same once more", "ROW 0 3", "lay(0, 0, 3) = 1 asked 3", "ROW 0 IS 3");
        E.edge("a number that is also an answer", "ROW 0 -9", "lay(0, 0, -1) = 1 asked -9", "ROW 0 IS -1");
        E.rich("BAD ahead of BEYOND", "lay(6, -1, 1) = BAD");
        E.rich("NOTHING ahead of BEYOND", "lay(5, -1, 1) = NOTHING");
        E.edge("a refused one leaves what there was", "ROW 0 3 4", "lay(0, 2, 9) = BEYOND", "lay(0, -1, 9) = BEYOND", "ROW 0 IS 3 4");
        E.edge("a place that was there once", "ROW 0 3 4", "row(0, 1) = 1", "lay(0, 1, 9) = BEYOND");
    }

    private static void at() {
        E.promise(4, "at");
        E.each("at(-1, 0) = BAD", "at(6, 0) = BAD", "at(MIN, 0) = BAD", "at(MAX, 0) = BAD");
        E.each("at(5, 0) = NOTHING", "at(3, 0) = BEYOND", "at(1, 2) = BEYOND", "at(1, -1) = BEYOND", "at(0, 40) = BEYOND");
        E.each("at(1, MIN) = BEYOND", "at(1, MAX) = BEYOND");
        E.rich("the first place", "at(1, 0) = 1 asked 10");
        E.rich("the last place", "at(1, 1) = 1 asked 8");
        E.rich("the last place of a full one", "at(0, 39) = 1 asked 7");
        E.edge("the first ROW and the last", "ROW 0 6", "ROW 5 7", "at(0, 0) = 1 asked 6", "at(5, 0) = 1 asked 7");
        E.edge("the least int", "ROW 0 MIN", "at(0, 0) = 1 asked MIN");
        E.edge("the greatest int", "ROW 0 MAX", "at(0, 0) = 1 asked MAX");
        E.rich("BAD ahead of BEYOND", "at(6, -1) = BAD");
        E.rich("NOTHING ahead of BEYOND", "at(5, -1) = NOTHING");
        E.rich("it changes nothing", "at(1, 0) = 1", "ROW 1 IS 10 8");
    }

    private static void tear() {
        E.promise(5, "tear");
        E.each("tear(-1) = BAD", "tear(6) = BAD", "tear(MIN) = BAD", "tear(MAX) = BAD", "tear(5) = NOTHING");
        E.edge("the first ROW", "ROW 0 1", "tear(0) = 1", "at(0, 0) = NOTHING");
        E.edge("the last ROW", "ROW 5 1", "tear(5) = 1", "at(5, 0) = NOTHING");
        E.edge("a full one", "row(0, 40) = 40", "tear(0) = 1", "count(6) = 0");
        E.edge("an empty one is there to be torn", "row(0, 0) = 0", "tear(0) = 1", "count(6) = 0", "mean(0) = NOTHING");
        E.edge("twice", "ROW 0 1", "tear(0) = 1", "tear(0) = NOTHING");
        E.edge("what it had is gone", "ROW 0 1 2", "tear(0) = 1", "row(0, 2) = 2", "ROW 0 IS 0 0");
        E.edge("others stay", "ROW 0 1", "ROW 1 2", "ROW 2 3", "tear(1) = 1", "ROW 0 IS 1", "ROW 2 IS 3", "count(6) = 2");
    }

    private static void copy() {
        E.promise(6, "copy");
        E.each("copy(-1, 0, 0, 0, 1) = BAD", "copy(6, 0, 0, 0, 1) = BAD", "copy(MIN, 0, 0, 0, 1) = BAD", "copy(MAX, 0, 0, 0, 1) = BAD");
        E.each("copy(0, 0, -1, 0, 1) = BAD", "copy(0, 0, 6, 0, 1) = BAD", "copy(0, 0, MIN, 0, 1) = BAD", "copy(0, 0, MAX, 0, 1) = BAD");
        E.each("copy(0, 0, 1, 0, -1) = SIZE", "copy(0, 0, 1, 0, MIN) = SIZE");
        E.each("copy(5, 0, 1, 0, 1) = NOTHING", "copy(1, 0, 5, 0, 1) = NOTHING", "copy(5, 0, 5, 0, 0) = NOTHING");
        E.each("copy(1, -1, 0, 0, 1) = BEYOND", "copy(1, 0, 0, -1, 1) = BEYOND", "copy(1, MIN, 0, 0, 1) = BEYOND", "copy(1, 0, 0, MIN, 1) = BEYOND");
        E.each("copy(1, 0, 0, 0, 3) = BEYOND", "copy(0, 0, 1, 0, 3) = BEYOND", "copy(1, 1, 0, 0, 2) = BEYOND", "copy(0, 0, 1, 1, 2) = BEYOND");
        E.each("copy(1, 2, 0, 0, 1) = BEYOND", "copy(0, 0, 1, 2, 1) = BEYOND", "copy(1, MAX, 0, 0, 1) = BEYOND", "copy(0, 0, 1, MAX, 1) = BEYOND");
        E.each("copy(0, 0, 4, 0, 10) = BEYOND", "copy(4, 0, 0, 0, 10) = BEYOND", "copy(3, 0, 0, 0, 1) = BEYOND", "copy(0, 0, 3, 0, 1) = BEYOND");
        E.rich("41 of a full one", "copy(0, 0, 0, 0, 41) = BEYOND");
        E.rich("the greatest number of places", "copy(0, 0, 0, 0, MAX) = BEYOND");
        E.rich("a place and a number that wrap around together", "copy(0, 1, 0, 1, MAX) = BEYOND", "copy(0, MAX, 0, MAX, MAX) = BEYOND");
        E.rich("BAD ahead of SIZE", "copy(6, 0, 0, 0, -1) = BAD", "copy(0, 0, 6, 0, -1) = BAD");
        E.rich("SIZE ahead of NOTHING", "copy(5, 0, 0, 0, -1) = SIZE", "copy(0, 0, 5, 0, -1) = SIZE");
        E.rich("SIZE ahead of BEYOND", "copy(1, 9, 0, 0, -1) = SIZE");
        E.rich("NOTHING ahead of BEYOND", "copy(5, 9, 0, 0, 1) = NOTHING", "copy(1, 9, 5, 0, 1) = NOTHING", "copy(5, -1, 0, -1, 1) = NOTHING");
        E.edge("none from the first place", "ROW 0 1 2", "ROW 1 3 4", "copy(0, 0, 1, 0, 0) = 1", "ROW 0 IS 1 2", "ROW 1 IS 3 4");
        E.edge("none from behind the last place", "ROW 0 1 2", "ROW 1 3 4", "copy(0, 2, 1, 2, 0) = 1", "ROW 1 IS 3 4");
        E.edge("none from an empty one to itself", "row(0, 0) = 0", "copy(0, 0, 0, 0, 0) = 1", "ROW 0 IS");
        E.edge("none from before the first place", "ROW 0 1 2", "copy(0, -1, 0, 0, 0) = BEYOND", "copy(0, 0, 0, -1, 0) = BEYOND");
        E.edge("one, the last to the first", "ROW 0 1 2", "ROW 1 3 4", "copy(0, 1, 1, 0, 1) = 1", "ROW 0 IS 1 2", "ROW 1 IS 2 4");
        E.edge("one, the first to the last", "ROW 0 1 2", "ROW 1 3 4", "copy(0, 0, 1, 1, 1) = 1", "ROW 1 IS 3 1");
        E.edge("all", "ROW 0 1 2 3", "ROW 5 4 5 6", "copy(0, 0, 5, 0, 3) = 1", "ROW 5 IS 1 2 3", "ROW 0 IS 1 2 3");
        E.edge("from the last ROW to the first", "ROW 0 1", "ROW 5 4", "copy(5, 0, 0, 0, 1) = 1", "ROW 0 IS 4");
        E.edge("all forty", "ROW 0 7*39 8", "row(1, 40) = 40", "copy(0, 0, 1, 0, 40) = 1", "at(1, 0) = 1 asked 7", "at(1, 38) = 1 asked 7", "at(1, 39) = 1 asked 8");
        E.edge("to itself further on, as if taken ahead", "ROW 0 1 2 3 4", "copy(0, 0, 0, 1, 3) = 1", "ROW 0 IS 1 1 2 3");
        E.edge("to itself further ahead, as if taken ahead", "ROW 0 1 2 3 4", "copy(0, 1, 0, 0, 3) = 1", "ROW 0 IS 2 3 4 4");
        E.edge("to itself at the same place", "ROW 0 1 2 3 4", "copy(0, 1, 0, 1, 3) = 1", "ROW 0 IS 1 2 3 4");
        E.edge("to itself, apart", "ROW 0 1 2 3 4", "copy(0, 0, 0, 2, 2) = 1", "ROW 0 IS 1 2 1 2");
        E.edge("the least and the greatest int", "ROW 0 MIN MAX", "row(1, 2) = 2", "copy(0, 0, 1, 0, 2) = 1", "ROW 1 IS MIN MAX");
        E.edge("the size stays", "ROW 0 1 2 3", "ROW 1 4 5 6 7 8", "copy(0, 0, 1, 1, 3) = 1", "ROW 1 IS 4 1 2 3 8");
        E.rich("asked() stays", "copy(1, 0, 0, 0, 1) = 1", "asked() = 7");
    }

    private static void mean() {
        E.promise(7, "mean");
        E.each("mean(-1) = BAD", "mean(6) = BAD", "mean(MIN) = BAD", "mean(MAX) = BAD", "mean(5) = NOTHING", "mean(3) = NOUGHT");
        E.edge("one that has been emptied", "ROW 0 1", "row(0, 0) = 0", "mean(0) = NOUGHT");
        E.edge("the first ROW and the last", "ROW 0 4", "ROW 5 6", "mean(0) = 1 asked 4", "mean(5) = 1 asked 6");
        E.edge("of one", "ROW 0 -3", "mean(0) = 1 asked -3");
        E.edge("of noughts", "row(0, 3) = 3", "mean(0) = 1 asked 0");
        E.edge("just whole", "ROW 0 1 3", "mean(0) = 1 asked 2");
        E.edge("cut above 0", "ROW 0 1 2", "mean(0) = 1 asked 1");
        E.edge("just below a whole one", "ROW 0 3 3 2", "mean(0) = 1 asked 2");
        E.edge("cut below 0", "ROW 0 -1 -2", "mean(0) = 1 asked -1");
        E.edge("cut to 0 from below", "ROW 0 -1 0", "mean(0) = 1 asked 0");
        E.edge("cut to 0 from above", "ROW 0 1 0", "mean(0) = 1 asked 0");
        E.edge("the greatest int", "ROW 0 MAX", "mean(0) = 1 asked MAX");
        E.edge("the least int", "ROW 0 MIN", "mean(0) = 1 asked MIN");
        E.edge("two of the greatest don't wrap around", "ROW 0 MAX MAX", "mean(0) = 1 asked MAX");
        E.edge("two of the least don't wrap around", "ROW 0 MIN MIN", "mean(0) = 1 asked MIN");
        E.edge("forty of the greatest", "ROW 0 MAX*40", "mean(0) = 1 asked MAX");
        E.edge("forty of the least", "ROW 0 MIN*40", "mean(0) = 1 asked MIN");
        E.edge("the least and the greatest: -1 by 2", "ROW 0 MIN MAX", "mean(0) = 1 asked 0");
        E.edge("forty, all count", "ROW 0 0*39 40", "mean(0) = 1 asked 1");
        E.edge("what was there once doesn't count", "ROW 0 2 9 9", "row(0, 1) = 1", "lay(0, 0, 2) = 1", "mean(0) = 1 asked 2");
    }

    private static void text() {
        E.promise(8, "text");
        E.edge("the first TEXT is 0", "text(0, 2) = 2", "put(0, 0, 0) = 1032", "put(0, 1, 0) = 1032", "put(0, 2, 0) = BEYOND");
        E.edge("the last TEXT is 3", "text(3, 2) = 2", "put(3, 1, 0) = 1032", "put(3, 2, 0) = BEYOND");
        E.each("text(-1, 2) = BAD", "text(4, 2) = BAD", "text(MIN, 2) = BAD", "text(MAX, 2) = BAD");
        E.edge("none at all is a TEXT", "text(2, 0) = 0", "count(7) = 1", "put(2, 0, 0) = BEYOND");
        E.edge("one blank", "text(2, 1) = 1", "put(2, 0, 0) = 1032", "put(2, 1, 0) = BEYOND");
        E.edge("79", "text(2, 79) = 79", "put(2, 78, 0) = 1032", "put(2, 79, 0) = BEYOND");
        E.edge("80 are the most", "text(2, 80) = 80", "put(2, 79, 0) = 1032", "put(2, 80, 0) = BEYOND");
        E.each("text(0, 81) = BAD", "text(0, MAX) = BAD", "text(0, -1) = SIZE", "text(0, MIN) = SIZE");
        E.each("text(3, 81) = BAD", "text(3, -1) = SIZE", "text(2, 81) = BAD", "text(2, -1) = SIZE");
        E.rich("no such TEXT is BAD ahead of SIZE", "text(4, -1) = BAD", "text(-1, -1) = BAD");
        E.edge("a refused one doesn't come to be there", "text(1, 81) = BAD", "text(1, -1) = SIZE", "fault(1) = NOTHING", "count(7) = 0");
        E.edge("a refused one stays as it was", "TEXT 1 ab", "text(1, 81) = BAD", "text(1, -1) = SIZE", "put(1, 0, 0) = 1097", "put(1, 1, 0) = 1098", "put(1, 2, 0) = BEYOND");
        E.edge("anew: blanks again", "TEXT 1 ab", "text(1, 2) = 2", "put(1, 0, 0) = 1032", "put(1, 1, 0) = 1032");
        E.edge("smaller and larger again: blanks throughout", "TEXT 1 abc", "text(1, 1) = 1", "text(1, 3) = 3", "put(1, 0, 0) = 1032", "put(1, 1, 0) = 1032", "put(1, 2, 0) = 1032");
        E.edge("other TEXTS stay", "TEXT 0 a", "TEXT 2 b", "text(1, 80) = 80", "put(0, 0, 0) = 1097", "put(2, 0, 0) = 1098");
        E.edge("all four", "text(0, 80) = 80", "text(1, 80) = 80", "text(2, 80) = 80", "text(3, 80) = 80", "count(7) = 4", "text(4, 80) = BAD");
        E.rich("the SPEECH stays", "text(0, 0) = 0", "count(0) = 9", "here() = 3 asked 2");
    }

    private static void put() {
        E.promise(9, "put");
        E.each("put(-1, 0, 65) = BAD", "put(4, 0, 65) = BAD", "put(MIN, 0, 65) = BAD", "put(MAX, 0, 65) = BAD");
        E.each("put(3, 0, 65) = NOTHING", "put(2, 0, 65) = BEYOND", "put(1, 3, 65) = BEYOND", "put(1, -1, 65) = BEYOND");
        E.each("put(1, MIN, 65) = BEYOND", "put(1, MAX, 65) = BEYOND");
        E.rich("BAD ahead of BEYOND", "put(4, -1, 65) = BAD");
        E.rich("NOTHING ahead of BEYOND", "put(3, -1, 65) = NOTHING");
        E.rich("the first byte", "put(1, 0, 65) = 1110", "put(1, 0, 0) = 1065", "put(1, 1, 0) = 1032");
        E.rich("the last byte", "put(1, 2, 65) = 1122", "put(1, 2, 0) = 1065", "put(1, 1, 0) = 1032");
        E.edge("the last byte of a full one", "text(0, 80) = 80", "put(0, 79, 65) = 1032", "put(0, 79, 0) = 1065", "put(0, 80, 65) = BEYOND");
        E.edge("the first TEXT and the last", "TEXT 0 a", "TEXT 3 b", "put(0, 0, 0) = 1097", "put(3, 0, 0) = 1098");
        byteIs("0", 0);
        byteIs("1", 1);
        byteIs("127, the greatest byte", "127", 127);
        byteIs("128 is cut to the least", "128", -128);
        byteIs("255", -1);
        byteIs("256 wraps around to 0", "256", 0);
        byteIs("257", 1);
        byteIs("-1", -1);
        byteIs("-128, the least byte", "-128", -128);
        byteIs("-129 is cut to the greatest", "-129", 127);
        byteIs("-256", 0);
        byteIs("the greatest int", "MAX", -1);
        byteIs("the least int", "MIN", 0);
        E.edge("a letter by a number that is cut", "TEXT 0 nn", "put(0, 0, 366) = 1110", "put(0, 1, -146) = 1110", "speech(0) = 2");
        E.edge("a refused one leaves what there was", "TEXT 0 ab", "put(0, 2, 0) = BEYOND", "put(0, -1, 0) = BEYOND", "put(0, 0, 0) = 1097", "put(0, 1, 0) = 1098");
        E.rich("asked() stays", "put(1, 0, 65) = 1110", "asked() = 7");
        E.rich("the SPEECH stays", "put(0, 0, 'z') = 1110", "count(0) = 9", "node(0, 0) = 1 asked 0");
    }

    private static void byteIs(String v, int kept) {
        byteIs(v, v, kept);
    }

    private static void byteIs(String name, String v, int kept) {
        E.edge(name, "text(0, 1) = 1", "put(0, 0, " + v + ") = 1032", "put(0, 0, 32) = " + (1000 + kept));
    }
}
