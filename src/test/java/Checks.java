import java.io.IOException;
import java.util.function.IntToLongFunction;
import java.util.function.ToLongFunction;

/** What the tests of the project have in common: rows that are counted, ranges, the document's words, small frames. */
abstract class Checks {
    static final int UNKNOWN = -900001, OUTSIDE = -900002, STATE = -900003, FULL = -900004, NONE = -900009;
    /** Numbers that are no beam, place, year or the like of anything. */
    static final int[] WILD = {Integer.MIN_VALUE, NONE, UNKNOWN, -1, 501, 900009, Integer.MAX_VALUE};
    static final boolean[] BOTH = {true, false};

    private static int wrong = 0;
    private static int rows = 0;
    private static String part = "";
    private static Document document = null;
    private static int rowsBeforeSentence = 0;
    private static String sentence = null;

    /** A call on one beam of a frame. */
    interface Ask {
        long on(OldBeams x, int beam);
    }

    static void begin(String name) {
        endSentence();
        part = name;
    }

    static void must(boolean holds, String what) {
        rows++;
        if (holds) return;
        wrong++;
        System.out.println((part + (sentence == null ? "" : " \"" + sentence + "\"") + ": " + what).trim());
    }

    static void due(String call, long got, long want) {
        must(got == want, call + " answered " + got + ", due is " + want);
    }

    static boolean isRefused(long answer) {
        return answer <= UNKNOWN && answer >= FULL;
    }

    static void end(String whenAllHold) {
        endSentence();
        System.out.println(wrong == 0 ? whenAllHold : wrong + " rows are not as due");
        if (wrong != 0) System.exit(1);
    }

    // ---- the document's words

    /** The rows that follow are for these words, which must stand in this part of the document. */
    static void says(String words) {
        endSentence();
        sentence = words;
        rowsBeforeSentence = rows;
        try {
            if (document == null) document = Document.read();
        } catch (IOException e) {
            must(false, "the document cannot be read: " + e.getMessage());
            return;
        }
        if (!document.quote(part, words)) must(false, "these words do not stand there");
    }

    /** Every such edge of the document's part must have been quoted. */
    static void allQuoted(String part, String edges) {
        begin(part);
        if (document == null) return;
        for (String missing : document.unquoted(part, edges)) must(false, "no test is for \"" + missing + "\"");
    }

    private static void endSentence() {
        if (sentence != null && rows == rowsBeforeSentence) {
            must(false, "no row is for it");
        }
        sentence = null;
    }

    // ---- ranges

    /** All from the least to the greatest give this answer; those beside them and far from them are refused. */
    static void range(String name, int least, int most, long answer, int refusal, IntToLongFunction call) {
        for (int v = least; v <= most; v++) due(name + " " + v, call.applyAsLong(v), answer);
        refused(name, least, most, refusal, call);
    }

    static void refused(String name, int least, int most, int refusal, IntToLongFunction call) {
        due(name + " " + (least - 1), call.applyAsLong(least - 1), refusal);
        due(name + " " + (most + 1), call.applyAsLong(most + 1), refusal);
        for (int v : WILD) {
            if (v < least || v > most) due(name + " " + v, call.applyAsLong(v), refusal);
        }
    }

    /** The first and the last year are taken, what is beside them is OUTSIDE. */
    static void years(String name, long inFirst, long inLast, IntToLongFunction call) {
        due(name + " in 0", call.applyAsLong(0), inFirst);
        due(name + " in 500", call.applyAsLong(500), inLast);
        refused(name + " in", 0, 500, OUTSIDE, call);
    }

    /** Beam numbers of a frame with no, with one and with all twelve beams: the last one is known, the next is not. */
    static void unknownBeams(String name, Ask ask) {
        for (int many : new int[] {0, 1, 12}) {
            if (many > 0) must(ask.on(beams(many), many - 1) != UNKNOWN, name + ": the last of " + many + " is known");
            refused(name + " of " + many + " beams", 0, many - 1, UNKNOWN, b -> ask.on(beams(many), b));
        }
    }

    /** Asked of beams that have fallen, or are down by either seat or by a third one, it says STATE; of others it does not. */
    static void refusedWhenDown(String name, Ask ask) {
        for (int i : new int[] {1, 2, 3, 4}) due(name + " of beam " + i + ", which is down", ask.on(halfDown(), i), STATE);
        for (int i : new int[] {0, 5}) must(ask.on(halfDown(), i) != STATE, name + " of beam " + i + ", which is not down");
    }

    /** For the calls that tell a fraction. */
    static void fraction(String name, long above, long below, ToLongFunction<Boolean> part) {
        due(name + ", above", part.applyAsLong(true), above);
        due(name + ", below", part.applyAsLong(false), below);
    }

    // ---- small frames

    /** One beam of length 10 whose whole strength is 1000, on posts at its ends. */
    static OldBeams oneBeam() {
        return beams(1);
    }

    static OldBeams beams(int many) {
        OldBeams x = new OldBeams();
        for (int i = 0; i < many; i++) x.beam(0, 10, 10, 10, 0);
        return x;
    }

    /** One beam with its seats at these places. */
    static OldBeams seated(int length, int first, int second) {
        OldBeams x = new OldBeams();
        x.beam(0, length, 10, 10, 0);
        x.seat(0, 0, first, NONE, 0);
        x.seat(0, 1, second, NONE, 0);
        return x;
    }

    /** One beam that needs 4 tenths: it bends by 400. */
    static OldBeams needsFour() {
        OldBeams x = oneBeam();
        x.load(0, 5, 160);
        return x;
    }

    /** Beam 1 rests with seat 0 on the middle of beam 0, beam 2 with seat 1 on the middle of beam 1; beam 3 stands alone. */
    static OldBeams tower() {
        OldBeams x = beams(4);
        x.seat(1, 0, 0, 0, 5);
        x.seat(2, 1, 10, 1, 5);
        return x;
    }

    /** Beam 1 has fallen; 2 rests on it with seat 0, 3 with seat 1, 4 on 3; 0 and 5 stand, though 1 rested on 0. */
    static OldBeams halfDown() {
        OldBeams x = beams(6);
        x.seat(1, 1, 10, 0, 5);
        x.seat(2, 0, 0, 1, 5);
        x.seat(3, 1, 10, 1, 5);
        x.seat(4, 0, 0, 3, 5);
        x.fall(1);
        return x;
    }

    /** Leaves a beam with no other share than this one. */
    static void onlyShare(OldBeams x, int beam, int share) {
        x.weight(beam, share, 1);
        for (int t = 0; t <= 10; t++) {
            if (t != share) x.weight(beam, t, 0);
        }
    }

    /** Says of a tool how often its outcome 1 comes: so often from this share on, and so often below it. */
    static void toolFrom(OldBeams x, int tool, int share, int often, int below) {
        for (int t = 0; t <= 10; t++) x.tool(tool, t, t >= share ? often : below);
    }
}
