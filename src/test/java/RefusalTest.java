import java.util.ArrayList;
import java.util.Arrays;
import java.util.List;
import java.util.function.IntSupplier;
import java.util.function.LongSupplier;
import java.util.function.Supplier;
import java.util.function.ToIntFunction;

/**
 * Every call with every mix of good and bad numbers: of several refusals the first that the call names is told, and
 * what is refused changes nothing. And calls that only ask change nothing either.
 */
public final class RefusalTest extends Checks {
    private static final int TAKEN = 0;
    private static final int NO_INT = Integer.MIN_VALUE, FAR_INT = Integer.MAX_VALUE;
    /** The frame below has beams 0 to 5; 2 has fallen, 3 is down by it; 4 has 8 looks; of 5 only 10 tenths may be. */
    private static final int[][] ANY_BEAM = {{0, TAKEN}, {3, TAKEN}, {5, TAKEN}, {-1, UNKNOWN}, {6, UNKNOWN}, {NO_INT, UNKNOWN}};
    private static final int[][] UP_BEAM = {{0, TAKEN}, {4, TAKEN}, {2, STATE}, {3, STATE}, {-1, UNKNOWN}, {6, UNKNOWN}, {FAR_INT, UNKNOWN}};
    private static final int[][] YEAR = {{0, TAKEN}, {500, TAKEN}, {-1, OUTSIDE}, {501, OUTSIDE}};
    private static final int[][] SHARE = {{0, TAKEN}, {10, TAKEN}, {-1, OUTSIDE}, {11, OUTSIDE}};
    private static final int[][] FREE_TOOL = {{1, TAKEN}, {3, TAKEN}, {0, STATE}, {-1, UNKNOWN}, {4, UNKNOWN}};
    private static final int[][] ANY_TOOL = {{0, TAKEN}, {3, TAKEN}, {-1, UNKNOWN}, {4, UNKNOWN}};
    /** Place 10 is the last one of beams 3 and 5, and one of beam 0. */
    private static final int[][] PLACE = {{0, TAKEN}, {10, TAKEN}, {-1, OUTSIDE}, {NO_INT, OUTSIDE}, {FAR_INT, OUTSIDE}};
    private static final int[][] FORCE = {{1, TAKEN}, {9999, TAKEN}, {0, OUTSIDE}, {10000, OUTSIDE}};
    private static final int[][] EITHER = {{0, TAKEN}, {1, TAKEN}};

    /** A call with its numbers; where it takes a yes or no, that is a number too: 1, 0. */
    interface Call {
        long ask(OldBeams x, int[] n);
    }

    private static long[][] untouched;
    private static Supplier<OldBeams> frame;

    public static void main(String[] args) {
        begin("Terms");
        says("REFUSALS, of several the first that a call names");
        within(RefusalTest::busy);
        framesCalls();
        looksCalls();
        askedOfBeams();
        askedOfAll();
        fullOnes();
        seat();
        says("What is refused changes nothing");
        within(RefusalTest::busy);
        refusedInTurn();
        begin("asking");
        askingChangesNothing(RefusalTest::busy);
        due("two props are needed", upright().fewest(10), 2);
        askingChangesNothing(RefusalTest::upright);
        end("all answers are as due");
    }

    // ---- the frame that is asked

    private static OldBeams busy() {
        OldBeams x = new OldBeams();
        x.kind(1, 0, 150);
        x.kind(2, 1, 2);
        x.beam(0, 20, 10, 12, 0);
        x.beam(1, 12, 8, 8, 0);
        x.beam(2, 10, 10, 10, 7);
        x.beam(0, 10, 10, 10, 500);
        x.beam(3, 30, 20, 20, 0);
        x.beam(2, 10, 10, 10, 0);
        x.seat(1, 0, 1, 0, 5);
        x.seat(3, 1, 9, 2, 4);
        x.seat(5, 0, 2, 4, 15);
        x.wet(1, true);
        x.load(0, 10, 30);
        x.load(1, 6, 20);
        x.load(4, 15, 700);
        x.load(4, 10, 160);
        x.load(5, 5, 40);
        x.takeOff(2);
        x.prop(0, 10, 30);
        x.prop(1, 6, 15);
        x.prop(5, 5, 10);
        x.set(0, true);
        x.fall(2);
        onlyShare(x, 5, 10);
        x.weight(0, 0, 3);
        toolFrom(x, 0, 2, 6, 3);
        toolFrom(x, 1, 1, 8, 1);
        for (int i = 0; i < 8; i++) x.look(4, 0, i % 2, 3 + i);
        x.price(0, 80);
        return x;
    }

    private static OldBeams fullOfBeams() {
        OldBeams x = busy();
        for (int i = 6; i < 12; i++) x.beam(0, 5, 5, 5, 0);
        return x;
    }

    private static OldBeams fullOfLoads() {
        OldBeams x = busy();
        for (int i = 5; i < 40; i++) x.load(i % 6, 3, 1);
        return x;
    }

    private static OldBeams fullOfLooks() {
        OldBeams x = fullOfBeams();
        for (int i = 8; i < 60; i++) x.look(i % 11 < 4 ? i % 11 : 1 + i % 11, 0, 0, 10);
        return x;
    }

    private static OldBeams fullOfProps() {
        OldBeams x = busy();
        for (int i = 3; i < 8; i++) x.prop(0, i, 1);
        return x;
    }

    private static void within(Supplier<OldBeams> made) {
        frame = made;
        untouched = told(made);
    }

    /** All that calls can tell of an object; each part on an object of its own, as one is good for 512 calls. */
    private static long[][] told(Supplier<OldBeams> made) {
        return new long[][] {toldOfBeams(made.get()), toldOfFrame(made.get()), toldOfRows(made.get())};
    }

    private static long[] toldOfBeams(OldBeams x) {
        List<Long> all = new ArrayList<>();
        for (int b = 0; b < 12; b++) {
            for (int what = 0; what <= 7; what++) all.add((long) x.about(b, what));
            for (int t = 0; t <= 10; t++) all.add(x.odds(b, t, 500));
        }
        return row(all);
    }

    private static long[] toldOfFrame(OldBeams x) {
        List<Long> all = new ArrayList<>();
        for (int b = 0; b < 12; b++) {
            for (int place : new int[] {3, 5, 6, 10, 14}) all.add(x.bending(b, place));
            all.add(x.push(b, 0));
            all.add(x.push(b, 1));
            all.add((long) x.quarrel(b, 500));
            all.add((long) x.share(b, 0, 40, true));
            all.add(x.odds(b, 0, 5));
            all.add(x.mean(b, 10, true));
            all.add((long) x.chain(b, 10));
        }
        for (int what = 0; what <= 5; what++) all.add((long) x.count(what));
        all.add((long) x.weakest(500));
        all.add((long) x.fewest(500));
        all.add((long) x.bestLook(500));
        all.add((long) x.look(6, 3, 0, 9));
        all.add((long) x.look(0, 3, 0, 10));
        return row(all);
    }

    /** What is only told by the next change: what it was. */
    private static long[] toldOfRows(OldBeams x) {
        List<Long> all = new ArrayList<>();
        for (int k = 0; k <= 3; k++) {
            for (int what = 0; what <= 2; what++) all.add((long) x.kind(k, what, 1));
            for (int t = 0; t <= 10; t++) all.add((long) x.tool(k, t, 9));
        }
        for (int p = 0; p < 8; p++) all.add((long) x.set(p, true));
        for (int b = 0; b < 12; b++) all.add(x.push(b, 0));
        for (int l = 0; l < 40; l++) all.add((long) x.takeOff(l));
        all.add((long) x.price(0, 1));
        all.add((long) x.price(1, 1));
        all.add((long) x.beam(0, 2, 1, 1, 0));
        all.add((long) x.load(0, 0, 1));
        all.add((long) x.prop(0, 0, 1));
        return row(all);
    }

    private static long[] row(List<Long> all) {
        must(all.size() <= 300, "an object is asked no more than 512 times");
        return all.stream().mapToLong(Long::longValue).toArray();
    }

    // ---- the first of several

    private static void framesCalls() {
        every("kind", (x, n) -> x.kind(n[0], n[1], n[2]), n -> kindRefusal(n),
            new int[][] {{0}, {3}, {-1}, {4}, {NO_INT}, {FAR_INT}}, new int[][] {{0}, {1}, {2}, {-1}, {3}},
            new int[][] {{-1}, {0}, {1}, {10}, {11}, {999}, {1000}, {NO_INT}, {FAR_INT}});
        every("beam", (x, n) -> x.beam(n[0], n[1], n[2], n[3], n[4]), n -> TAKEN,
            new int[][] {{0, TAKEN}, {-1, UNKNOWN}, {4, UNKNOWN}}, new int[][] {{2, TAKEN}, {1, OUTSIDE}, {61, OUTSIDE}},
            new int[][] {{40, TAKEN}, {0, OUTSIDE}, {41, OUTSIDE}}, new int[][] {{40, TAKEN}, {0, OUTSIDE}, {41, OUTSIDE}}, YEAR);
        every("about", (x, n) -> x.about(n[0], n[1]), n -> TAKEN, ANY_BEAM,
            new int[][] {{0, TAKEN}, {7, TAKEN}, {-1, OUTSIDE}, {8, OUTSIDE}, {NO_INT, OUTSIDE}, {FAR_INT, OUTSIDE}});
        every("wet", (x, n) -> x.wet(n[0], n[1] == 1), n -> TAKEN, ANY_BEAM, EITHER);
        every("load", (x, n) -> x.load(n[0], n[1], n[2]), n -> TAKEN, ANY_BEAM, PLACE, FORCE);
        every("load beyond the end", (x, n) -> x.load(n[0], n[1], n[2]), n -> TAKEN,
            new int[][] {{3, TAKEN}, {5, TAKEN}, {6, UNKNOWN}}, new int[][] {{11, OUTSIDE}, {20, OUTSIDE}}, FORCE);
        every("takeOff", (x, n) -> x.takeOff(n[0]), n -> TAKEN,
            new int[][] {{0, TAKEN}, {4, TAKEN}, {2, STATE}, {-1, UNKNOWN}, {5, UNKNOWN}, {NO_INT, UNKNOWN}, {FAR_INT, UNKNOWN}});
        every("fall", (x, n) -> x.fall(n[0]), n -> TAKEN,
            new int[][] {{0, TAKEN}, {3, TAKEN}, {2, STATE}, {-1, UNKNOWN}, {6, UNKNOWN}, {NO_INT, UNKNOWN}, {FAR_INT, UNKNOWN}});
        every("prop", (x, n) -> x.prop(n[0], n[1], n[2]), n -> TAKEN, ANY_BEAM, PLACE, FORCE);
        every("set", (x, n) -> x.set(n[0], n[1] == 1), n -> TAKEN,
            new int[][] {{0, TAKEN}, {2, TAKEN}, {-1, UNKNOWN}, {3, UNKNOWN}, {NO_INT, UNKNOWN}, {FAR_INT, UNKNOWN}}, EITHER);
        every("price", (x, n) -> x.price(n[0], n[1]), n -> TAKEN,
            new int[][] {{0, TAKEN}, {1, TAKEN}, {-1, OUTSIDE}, {2, OUTSIDE}, {NO_INT, OUTSIDE}},
            new int[][] {{0, TAKEN}, {9999, TAKEN}, {-1, OUTSIDE}, {10000, OUTSIDE}, {FAR_INT, OUTSIDE}});
    }

    private static int kindRefusal(int[] n) {
        if (n[0] < 0 || n[0] > 3) return UNKNOWN;
        boolean grade = n[1] == 0 && n[2] >= 1 && n[2] <= 999;
        boolean rot = (n[1] == 1 || n[1] == 2) && n[2] >= 0 && n[2] <= 10;
        return grade || rot ? TAKEN : OUTSIDE;
    }

    private static void looksCalls() {
        int[][] beam = {{0, TAKEN}, {3, TAKEN}, {4, STATE}, {-1, UNKNOWN}, {6, UNKNOWN}};
        every("weight", (x, n) -> x.weight(n[0], n[1], n[2]), n -> TAKEN, beam, SHARE,
            new int[][] {{0, TAKEN}, {99, TAKEN}, {-1, OUTSIDE}, {100, OUTSIDE}});
        every("the last weight", (x, n) -> x.weight(n[0], n[1], n[2]), n -> n[1] == 10 && n[2] == 0 ? STATE : TAKEN,
            new int[][] {{5, TAKEN}}, SHARE, new int[][] {{0, TAKEN}, {99, TAKEN}, {-1, OUTSIDE}, {100, OUTSIDE}});
        every("tool", (x, n) -> x.tool(n[0], n[1], n[2]), n -> TAKEN, FREE_TOOL, SHARE,
            new int[][] {{0, TAKEN}, {9, TAKEN}, {-1, OUTSIDE}, {10, OUTSIDE}});
        // The last look was in year 10; at beam 4 there are 8.
        every("look", (x, n) -> x.look(n[0], n[1], n[2], n[3]), n -> TAKEN,
            new int[][] {{0, TAKEN}, {2, TAKEN}, {4, FULL}, {-1, UNKNOWN}, {6, UNKNOWN}}, ANY_TOOL,
            new int[][] {{0, TAKEN}, {1, TAKEN}, {-1, OUTSIDE}, {2, OUTSIDE}},
            new int[][] {{10, TAKEN}, {500, TAKEN}, {9, STATE}, {0, STATE}, {-1, OUTSIDE}, {501, OUTSIDE}});
    }

    private static void askedOfBeams() {
        every("push", (x, n) -> x.push(n[0], n[1]), n -> TAKEN, UP_BEAM,
            new int[][] {{0, TAKEN}, {1, TAKEN}, {-1, OUTSIDE}, {2, OUTSIDE}, {NO_INT, OUTSIDE}});
        every("bending", (x, n) -> x.bending(n[0], n[1]), n -> TAKEN, UP_BEAM, PLACE);
        every("bending beyond the end", (x, n) -> x.bending(n[0], n[1]), n -> TAKEN,
            new int[][] {{5, TAKEN}, {2, STATE}, {3, STATE}, {6, UNKNOWN}}, new int[][] {{11, OUTSIDE}, {20, OUTSIDE}});
        every("greatest", (x, n) -> x.greatest(n[0], n[1] == 1), n -> TAKEN, UP_BEAM, EITHER);
        every("lifts", (x, n) -> x.lifts(n[0]), n -> TAKEN, UP_BEAM);
        every("holds", (x, n) -> x.holds(n[0], n[1]), n -> TAKEN, UP_BEAM, SHARE);
        every("needs", (x, n) -> x.needs(n[0]), n -> TAKEN, UP_BEAM);
        every("odds", (x, n) -> x.odds(n[0], n[1], n[2]), n -> TAKEN, ANY_BEAM, SHARE, YEAR);
        every("quarrel", (x, n) -> x.quarrel(n[0], n[1]), n -> TAKEN, ANY_BEAM, YEAR);
        every("share", (x, n) -> x.share(n[0], n[1], n[2], n[3] == 1), n -> n[2] < n[1] ? OUTSIDE : TAKEN, ANY_BEAM, YEAR, YEAR, EITHER);
        every("chance", (x, n) -> x.chance(n[0], n[1], n[2] == 1), n -> TAKEN, UP_BEAM, YEAR, EITHER);
        every("chain", (x, n) -> x.chain(n[0], n[1]), n -> TAKEN, UP_BEAM, YEAR);
        every("chainAt", (x, n) -> x.chainAt(n[0], n[1], n[2]), n -> TAKEN, UP_BEAM, YEAR,
            new int[][] {{0, TAKEN}, {-1, TAKEN}, {12, TAKEN}, {NO_INT, TAKEN}, {FAR_INT, TAKEN}});
        every("mean", (x, n) -> x.mean(n[0], n[1], n[2] == 1), n -> TAKEN, UP_BEAM, YEAR, EITHER);
        every("worth", (x, n) -> x.worth(n[0], n[1], n[2], n[3] == 1), n -> TAKEN, UP_BEAM, ANY_TOOL, YEAR, EITHER);
    }

    private static void askedOfAll() {
        every("stands", (x, n) -> x.stands(n[0], n[1], n[2] == 1), n -> n[1] < n[0] ? OUTSIDE : TAKEN, YEAR, YEAR, EITHER);
        every("until", (x, n) -> x.until(n[0], n[1] == 1), n -> TAKEN, YEAR, EITHER);
        every("weakest", (x, n) -> x.weakest(n[0]), n -> TAKEN, YEAR);
        every("fewest", (x, n) -> x.fewest(n[0]), n -> TAKEN, YEAR);
        every("needed", (x, n) -> x.needed(n[0], n[1]), n -> TAKEN, YEAR,
            new int[][] {{0, TAKEN}, {-1, TAKEN}, {8, TAKEN}, {NO_INT, TAKEN}, {FAR_INT, TAKEN}});
        every("bestLook", (x, n) -> x.bestLook(n[0]), n -> TAKEN, YEAR);
        every("count", (x, n) -> x.count(n[0]), n -> TAKEN,
            new int[][] {{0, TAKEN}, {5, TAKEN}, {-1, OUTSIDE}, {6, OUTSIDE}, {NO_INT, OUTSIDE}, {FAR_INT, OUTSIDE}});
    }

    private static void fullOnes() {
        within(RefusalTest::fullOfBeams);
        every("13th beam", (x, n) -> x.beam(n[0], n[1], n[2], n[3], n[4]), n -> FULL,
            new int[][] {{3, TAKEN}, {4, UNKNOWN}}, new int[][] {{60, TAKEN}, {61, OUTSIDE}},
            new int[][] {{1, TAKEN}, {0, OUTSIDE}}, new int[][] {{1, TAKEN}, {0, OUTSIDE}}, YEAR);
        within(RefusalTest::fullOfLoads);
        every("41st load", (x, n) -> x.load(n[0], n[1], n[2]), n -> FULL, ANY_BEAM, PLACE, FORCE);
        within(RefusalTest::fullOfProps);
        every("9th prop", (x, n) -> x.prop(n[0], n[1], n[2]), n -> FULL, ANY_BEAM, PLACE, FORCE);
        within(RefusalTest::fullOfLooks);
        due("sixty looks", fullOfLooks().count(2), 60);
        every("61st look", (x, n) -> x.look(n[0], n[1], n[2], n[3]), n -> FULL,
            new int[][] {{0, TAKEN}, {4, TAKEN}, {11, TAKEN}, {-1, UNKNOWN}, {12, UNKNOWN}}, ANY_TOOL,
            new int[][] {{0, TAKEN}, {1, TAKEN}, {-1, OUTSIDE}, {2, OUTSIDE}},
            new int[][] {{10, TAKEN}, {500, TAKEN}, {9, STATE}, {501, OUTSIDE}});
    }

    /** The one call whose refusals do not come in the usual order: STATE for on is ahead of OUTSIDE for where. */
    private static void seat() {
        within(RefusalTest::busy);
        every("seat", (x, n) -> x.seat(n[0], n[1], n[2], n[3], n[4]), RefusalTest::seatRefusal,
            new int[][] {{0}, {1}, {5}, {-1}, {6}}, new int[][] {{0}, {1}, {-1}, {2}},
            new int[][] {{0}, {4}, {6}, {10}, {12}, {-1}, {13}, {21}}, new int[][] {{0}, {2}, {4}, {5}, {6}, {-1}, {NONE}},
            new int[][] {{0}, {10}, {20}, {30}, {-1}, {11}, {21}, {31}, {NO_INT}, {FAR_INT}});
    }

    private static int seatRefusal(int[] n) {
        int[] lengths = {20, 12, 10, 10, 30, 10};
        int[][] seats = {{0, 20}, {1, 12}, {0, 10}, {0, 9}, {0, 30}, {2, 10}};
        if (n[0] < 0 || n[0] >= lengths.length) return UNKNOWN;
        if (n[1] < 0 || n[1] > 1 || n[2] < 0 || n[2] > lengths[n[0]]) return OUTSIDE;
        if (n[3] != NONE && (n[3] < 0 || n[3] >= n[0])) return STATE;
        if (n[3] != NONE && (n[4] < 0 || n[4] > lengths[n[3]])) return OUTSIDE;
        int[] put = seats[n[0]].clone();
        put[n[1]] = n[2];
        return 3 * (put[1] - put[0]) < lengths[n[0]] ? STATE : TAKEN;
    }

    /** Asks a call with all its rows of numbers mixed; a row's second number is by what the first is refused. */
    private static void every(String name, Call call, ToIntFunction<int[]> more, int[][]... rows) {
        int[] at = new int[rows.length];
        boolean goesOn = true;
        while (goesOn) {
            int[] n = new int[rows.length];
            int refusal = TAKEN;
            for (int i = 0; i < rows.length; i++) {
                int[] value = rows[i][at[i]];
                n[i] = value[0];
                if (value.length > 1) refusal = first(refusal, value[1]);
            }
            one(name, call, n, first(refusal, more.applyAsInt(n)));
            int turn = 0;
            while (turn < at.length && ++at[turn] == rows[turn].length) at[turn++] = 0;
            goesOn = turn < at.length;
        }
    }

    /** UNKNOWN, OUTSIDE, STATE, FULL is the order in which calls name them, and of their numbers from above. */
    private static int first(int one, int other) {
        if (one == TAKEN) return other;
        return other == TAKEN ? one : Math.max(one, other);
    }

    private static void one(String name, Call call, int[] n, int refusal) {
        String told = name + Arrays.toString(n);
        if (refusal == TAKEN) {
            must(!isRefused(call.ask(frame.get(), n)), told + " was refused");
            return;
        }
        due(told, call.ask(frame.get(), n), refusal);
        unchanged(told, () -> {
            OldBeams x = frame.get();
            call.ask(x, n);
            return x;
        });
    }

    private static void unchanged(String told, Supplier<OldBeams> made) {
        must(Arrays.deepEquals(told(made), untouched), told + " changed something");
    }

    // ---- what changes nothing

    /** Many refused calls of all kinds on one object, one behind the other. */
    private static void refusedInTurn() {
        OldBeams probe = busy();
        for (IntSupplier refused : someRefused(probe)) must(isRefused(refused.getAsInt()), "a call is refused");
        unchanged("a row of refused calls", () -> {
            OldBeams x = busy();
            for (IntSupplier refused : someRefused(x)) refused.getAsInt();
            return x;
        });
    }

    private static List<IntSupplier> someRefused(OldBeams x) {
        return List.of(
            () -> x.kind(4, 0, 5), () -> x.kind(1, 0, 1000), () -> x.kind(1, 2, 11),
            () -> x.beam(4, 5, 5, 5, 5), () -> x.beam(0, 5, 5, 5, 501),
            () -> x.seat(6, 0, 0, NONE, 0), () -> x.seat(5, 0, 11, 0, 0), () -> x.seat(5, 0, 1, 5, 0),
            () -> x.seat(5, 0, 1, 0, 21), () -> x.seat(5, 0, 7, 0, 20), () -> x.wet(6, true),
            () -> x.load(6, 0, 1), () -> x.load(0, 21, 1), () -> x.load(0, 0, 10000),
            () -> x.takeOff(5), () -> x.takeOff(2), () -> x.fall(6), () -> x.fall(2),
            () -> x.weight(6, 0, 1), () -> x.weight(0, 0, 100), () -> x.weight(4, 0, 7), () -> x.weight(5, 10, 0),
            () -> x.tool(4, 0, 1), () -> x.tool(1, 0, 10), () -> x.tool(0, 0, 9),
            () -> x.look(6, 0, 0, 10), () -> x.look(0, 4, 0, 10), () -> x.look(0, 0, 2, 10), () -> x.look(0, 0, 0, 9), () -> x.look(4, 0, 0, 10),
            () -> x.prop(6, 0, 1), () -> x.prop(0, 0, 0), () -> x.set(3, true), () -> x.price(0, 10000), () -> x.price(2, 1),
            () -> (int) x.push(3, 0), () -> x.chain(2, 10), () -> x.fewest(501), () -> x.until(-1, true), () -> x.count(6));
    }

    /** Each question is asked behind each other one, and answers as it does on a new object. */
    private static void askingChangesNothing(Supplier<OldBeams> made) {
        within(made);
        int many = questions(made.get()).size();
        long[] alone = new long[many];
        for (int i = 0; i < many; i++) alone[i] = questions(made.get()).get(i).getAsLong();
        for (int i = 0; i < many; i++) {
            List<LongSupplier> asked = questions(made.get());
            for (int j = 0; j < many; j++) {
                asked.get(i).getAsLong();
                due("question " + j + " behind question " + i, asked.get(j).getAsLong(), alone[j]);
            }
            int question = i;
            unchanged("question " + i, () -> {
                OldBeams x = made.get();
                questions(x).get(question).getAsLong();
                return x;
            });
        }
    }

    /** A frame in which none is down, and which stands with two props: one at beam 0, one at beam 1. */
    private static OldBeams upright() {
        OldBeams x = beams(6);
        for (int b = 0; b < 6; b++) onlyShare(x, b, 5);
        x.seat(5, 0, 0, 4, 5);
        x.load(0, 5, 240);
        x.load(1, 5, 240);
        x.load(4, 5, 160);
        x.prop(0, 5, 20);
        x.prop(1, 5, 50);
        x.prop(0, 5, 60);
        x.wet(4, true);
        toolFrom(x, 1, 5, 7, 2);
        x.look(4, 1, 1, 3);
        return x;
    }

    private static List<LongSupplier> questions(OldBeams x) {
        return List.of(
            () -> x.about(0, 5), () -> x.push(0, 1), () -> x.bending(0, 10), () -> x.greatest(4, false), () -> x.greatest(4, true),
            () -> x.lifts(0), () -> x.holds(4, 3), () -> x.needs(1), () -> x.needs(4), () -> x.odds(4, 3, 7), () -> x.odds(0, 0, 7),
            () -> x.quarrel(4, 10), () -> x.share(4, 5, 50, false), () -> x.share(1, 5, 50, true),
            () -> x.stands(3, 30, false), () -> x.stands(3, 30, true), () -> x.until(3, false), () -> x.until(3, true),
            () -> x.chance(4, 6, true), () -> x.chance(0, 6, false), () -> x.weakest(10), () -> x.chain(4, 10), () -> x.chain(0, 10),
            () -> x.chainAt(4, 10, 1), () -> x.chainAt(1, 3, 2), () -> x.fewest(10), () -> x.needed(10, 0), () -> x.mean(4, 10, true),
            () -> x.mean(1, 10, false), () -> x.worth(4, 1, 10, true), () -> x.worth(1, 0, 10, false), () -> x.bestLook(10),
            () -> x.count(5), () -> x.count(4));
    }
}
