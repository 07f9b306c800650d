/** Each sentence of the document's Terms that names an edge has rows of its own here; answers reckoned by hand. */
public final class TermsEdgeTest extends Checks {
    /** Words by which the Terms tell an edge; all of them must be quoted by some test. */
    private static final String EDGES = "[0-9]+ to [0-9A-Z]|at most|at first|at least|for good|lesser|\\bleast\\b|(?<!`)greatest|cut"
        + "|below 0|above 0|never|no more|no earlier|too\\)|left out|NONE|none is|of as many|likewise|in common|by then|changes nothing";

    public static void main(String[] args) {
        begin("What it is");
        lastCall();
        begin("Terms");
        refusals();
        kinds();
        beams();
        seats();
        loads();
        falls();
        forces();
        bending();
        strength();
        shares();
        tools();
        looks();
        odds();
        rot();
        standing();
        chances();
        triedFalls();
        props();
        choices();
        bestLooks();
        allQuoted("Terms", EDGES);
        end("all answers are as due");
    }

    private static void lastCall() {
        says("An object is used for at most 512 calls after it has been made");
        OldBeams x = needsFour();
        for (int call = 3; call <= 511; call++) due("call " + call, x.wet(0, call % 2 == 1), 1 - call % 2);
        due("call 512", x.needs(0), 4);
    }

    private static void refusals() {
        begin("The public face");
        says("UNKNOWN = -900001, OUTSIDE = -900002, STATE = -900003, FULL = -900004, NONE = -900009");
        due("UNKNOWN", OldBeams.UNKNOWN, -900001);
        due("OUTSIDE", OldBeams.OUTSIDE, -900002);
        due("STATE", OldBeams.STATE, -900003);
        due("FULL", OldBeams.FULL, -900004);
        begin("Terms");
        says("NONE is -900009");
        due("NONE", OldBeams.NONE, -900009);
        due("a beam's seat", oneBeam().about(0, 3), -900009);
        says("UNKNOWN (there is no such BEAM, KIND, LOAD, PLACE for a prop, TOOL)");
        OldBeams empty = new OldBeams();
        due("BEAM", empty.about(0, 0), UNKNOWN);
        due("KIND", empty.kind(4, 0, 1), UNKNOWN);
        due("LOAD", empty.takeOff(0), UNKNOWN);
        due("PLACE for a prop", empty.set(0, true), UNKNOWN);
        due("TOOL", empty.tool(4, 0, 0), UNKNOWN);
        says("OUTSIDE (another number is not as told)");
        due("a share", oneBeam().holds(0, 11), OUTSIDE);
        due("a seat", oneBeam().push(0, 2), OUTSIDE);
        due("a what", oneBeam().count(6), OUTSIDE);
        says("What is refused changes nothing");
        OldBeams x = oneBeam();
        due("OUTSIDE", x.kind(0, 0, 1000), OUTSIDE);
        due("the grade is kept", x.kind(0, 0, 100), 100);
        due("STATE", x.seat(0, 0, 7, NONE, 0), STATE);
        due("the seat is kept", x.about(0, 1), 0);
        fractions();
    }

    private static void fractions() {
        says("FRACTIONS are told above (upper = true), below (1 and more), in least terms");
        OldBeams x = oneBeam();
        fraction("a chance of 1", 1, 1, upper -> x.chance(0, 0, upper));
        fraction("a mean cost of 0", 0, 1, upper -> x.mean(0, 0, upper));
        fraction("a worth of 0", 0, 1, upper -> x.worth(0, 0, 0, upper));
        x.load(0, 5, 402);
        fraction("a chance of 0", 0, 1, upper -> x.chance(0, 0, upper));
        fraction("a mean cost that is whole", 100, 1, upper -> x.mean(0, 0, upper));
        OldBeams y = needsFour();
        y.weight(0, 0, 4);
        fraction("7 of 14", 1, 2, upper -> y.chance(0, 0, upper));
        says("refusals of them are told likewise");
        for (boolean upper : BOTH) {
            OldBeams z = oneBeam();
            due("chance", z.chance(1, 0, upper), UNKNOWN);
            due("chance", z.chance(0, 501, upper), OUTSIDE);
            due("mean", z.mean(1, 0, upper), UNKNOWN);
            due("mean", z.mean(0, 501, upper), OUTSIDE);
            due("worth", z.worth(1, 0, 0, upper), UNKNOWN);
            due("worth", z.worth(0, 4, 0, upper), UNKNOWN);
            due("worth", z.worth(0, 0, 501, upper), OUTSIDE);
            z.fall(0);
            due("chance", z.chance(0, 0, upper), STATE);
            due("mean", z.mean(0, 0, upper), STATE);
            due("worth", z.worth(0, 0, 0, upper), STATE);
        }
    }

    private static void kinds() {
        says("KINDS of wood 0 to 3");
        range("kind", 0, 3, 100, UNKNOWN, k -> new OldBeams().kind(k, 0, 50));
        range("beam of kind", 0, 3, 0, UNKNOWN, k -> new OldBeams().beam(k, 2, 1, 1, 0));
        says("a GRADE (1 to 999; 100 at first)");
        range("grade", 1, 999, 100, OUTSIDE, v -> new OldBeams().kind(3, 0, v));
        OldBeams x = new OldBeams();
        x.beam(1, 2, 1, 10, 0);
        due("strength at first", x.about(0, 5), 100);
        x.kind(1, 0, 999);
        due("strength of 999", x.about(0, 5), 999);
        x.kind(1, 0, 1);
        due("strength of 1", x.about(0, 5), 1);
        says("ROT a year in the dry, in the wet (0 to 10 tenths; 0 and 1 at first)");
        range("in the dry", 0, 10, 0, OUTSIDE, v -> new OldBeams().kind(3, 1, v));
        range("in the wet", 0, 10, 1, OUTSIDE, v -> new OldBeams().kind(3, 2, v));
        OldBeams y = oneBeam();
        due("dry at first", y.share(0, 0, 500, true), 10);
        y.kind(0, 1, 10);
        due("dry, a tenth a year", y.share(0, 0, 1, true), 9);
        y.wet(0, true);
        due("wet at first", y.share(0, 0, 10, true), 9);
        y.kind(0, 2, 0);
        due("wet, none", y.share(0, 0, 500, true), 10);
    }

    private static void beams() {
        says("BEAMS 0, 1, .. (12 at most)");
        OldBeams x = new OldBeams();
        for (int i = 0; i < 12; i++) due("beam", x.beam(0, 2, 1, 1, 0), i);
        due("13th", x.beam(0, 2, 1, 1, 0), FULL);
        due("the 12th is there", x.about(11, 0), 2);
        due("a 13th is not", x.about(12, 0), UNKNOWN);
        says("a LENGTH (2 to 60)");
        range("length", 2, 60, 0, OUTSIDE, v -> new OldBeams().beam(0, v, 1, 1, 0));
        says("a WIDTH and a HEIGHT (1 to 40 each)");
        range("width", 1, 40, 0, OUTSIDE, v -> new OldBeams().beam(0, 2, v, 1, 0));
        range("height", 1, 40, 0, OUTSIDE, v -> new OldBeams().beam(0, 2, 1, v, 0));
        says("a YEAR since when it is there (0 to 500)");
        range("year", 0, 500, 0, OUTSIDE, v -> new OldBeams().beam(0, 2, 1, 1, v));
        says("DRY or WET (DRY at first)");
        due("at first", oneBeam().about(0, 6), 0);
        due("at first", oneBeam().wet(0, false), 0);
    }

    private static void seats() {
        says("It has two SEATS, at places of it (0 to LENGTH;");
        refused("seat", 0, 1, OUTSIDE, s -> longest().seat(0, s, 0, NONE, 0));
        for (int p = 0; p <= 60; p++) {
            due("seat 0 at " + p, longest().seat(0, 0, p, NONE, 0), p <= 40 ? 0 : STATE);
            due("seat 1 at " + p, longest().seat(0, 1, p, NONE, 0), p >= 20 ? 60 : STATE);
        }
        refused("seat 0 at", 0, 60, OUTSIDE, p -> longest().seat(0, 0, p, NONE, 0));
        refused("seat 1 at", 0, 60, OUTSIDE, p -> longest().seat(0, 1, p, NONE, 0));
        says("SEAT 0 at the lesser one");
        due("seat 0 as far behind", seated(10, 0, 4).seat(0, 0, 8, NONE, 0), STATE);
        due("seat 1 as far ahead", seated(10, 6, 10).seat(0, 1, 2, NONE, 0), STATE);
        due("both at one place", seated(10, 6, 10).seat(0, 1, 6, NONE, 0), STATE);
        says("three times how far they are apart is LENGTH at least");
        for (int length = 2; length <= 60; length++) thirdOf(length);
        says("each on a POST (ground), or on a place of a BEAM of lesser number");
        for (int b = 0; b < 12; b++) lesserBeams(b);
        says("or on a place of a BEAM of lesser number (0 to its LENGTH)");
        range("on the longer one", 0, 60, 0, OUTSIDE, w -> unlike(60, 2).seat(1, 0, 0, 0, w));
        range("on the shorter one", 0, 2, 0, OUTSIDE, w -> unlike(2, 60).seat(1, 0, 0, 0, w));
    }

    private static OldBeams longest() {
        OldBeams x = new OldBeams();
        x.beam(0, 60, 1, 1, 0);
        return x;
    }

    private static OldBeams unlike(int first, int second) {
        OldBeams x = new OldBeams();
        x.beam(0, first, 1, 1, 0);
        x.beam(0, second, 1, 1, 0);
        return x;
    }

    private static void thirdOf(int length) {
        int third = (length + 2) / 3;
        OldBeams x = unlike(length, length);
        due("one less, of " + length, x.seat(0, 1, third - 1, NONE, 0), STATE);
        due("a third, of " + length, x.seat(0, 1, third, NONE, 0), length);
        due("one less, of " + length, x.seat(1, 0, length - third + 1, NONE, 0), STATE);
        due("a third, of " + length, x.seat(1, 0, length - third, NONE, 0), 0);
    }

    private static void lesserBeams(int b) {
        OldBeams x = beams(12);
        for (int on = -1; on <= 12; on++) {
            boolean lesser = on >= 0 && on < b;
            due(b + " on " + on, x.seat(b, 0, 0, on, 3), lesser ? 0 : STATE);
            due(b + " with seat 1 on " + on, x.seat(b, 1, 10, on, 3), lesser ? 10 : STATE);
        }
        due(b + " stays on", x.about(b, 3), b == 0 ? NONE : b - 1);
        due(b + " on a post", x.seat(b, 0, 0, NONE, 3), 0);
        due(b + " is on a post", x.about(b, 3), NONE);
    }

    private static void loads() {
        says("LOADS 0, 1, .. (40 at most)");
        OldBeams x = oneBeam();
        for (int i = 0; i < 40; i++) due("load", x.load(0, 0, 1), i);
        due("41st", x.load(0, 0, 1), FULL);
        due("a 41st is not there", x.takeOff(40), UNKNOWN);
        due("the 40th is", x.takeOff(39), 1);
        says("a BEAM, a place of it (0 to LENGTH), a WEIGHT (1 to 9999)");
        range("place", 0, 10, 0, OUTSIDE, p -> oneBeam().load(0, p, 1));
        range("place of a long one", 0, 60, 0, OUTSIDE, p -> longest().load(0, p, 1));
        range("weight", 1, 9999, 0, OUTSIDE, w -> oneBeam().load(0, 0, w));
        says("it may be TAKEN OFF for good");
        OldBeams y = oneBeam();
        y.load(0, 0, 5);
        due("off", y.takeOff(0), 5);
        due("off twice", y.takeOff(0), STATE);
        due("its number is not given again", y.load(0, 10, 7), 1);
        due("it pushes no more", y.push(0, 0), 0);
        OldBeams z = beams(12);
        z.load(11, 10, 9999);
        z.load(11, 10, 1);
        due("at the last place of the last", z.takeOff(0), 9999);
        due("the other pushes still", z.push(11, 1), 1);
    }

    private static void falls() {
        says("A BEAM is UP, or has FALLEN (set by hand, and for good)");
        OldBeams x = tower();
        x.fall(1);
        x.seat(1, 0, 0, NONE, 0);
        due("on posts it is down still", x.about(1, 7), 1);
        due("it cannot fall twice", x.fall(1), STATE);
        says("What is DOWN: it has FALLEN, or a SEAT of it is on a BEAM that is DOWN");
        int[] down = {0, 1, 1, 1, 1, 0};
        for (int i = 0; i < 6; i++) due("beam " + i, halfDown().about(i, 7), down[i]);
        OldBeams y = halfDown();
        y.seat(2, 0, 0, NONE, 0);
        due("moved to a post", y.about(2, 7), 0);
        y.seat(5, 1, 10, 4, 0);
        due("put on one that is down", y.about(5, 7), 1);
        OldBeams z = beams(12);
        for (int i = 1; i < 12; i++) z.seat(i, i % 2, i % 2 * 10, i - 1, 0);
        due("all twelve", z.fall(0), 12);
    }

    private static void forces() {
        says("its LOADS; and what all BEAMS that rest on it and are not DOWN push, at the places of their SEATS");
        OldBeams x = beams(3);
        x.load(1, 0, 10);
        x.load(2, 10, 4);
        due("none rests on it", x.push(0, 0), 0);
        x.seat(1, 0, 0, 0, 0);
        due("at 0", x.push(0, 0), 10);
        due("at 0", x.push(0, 1), 0);
        x.seat(1, 0, 0, 0, 10);
        due("at 10", x.push(0, 0), 0);
        due("at 10", x.push(0, 1), 10);
        x.seat(2, 1, 10, 0, 10);
        due("two at one place", x.push(0, 1), 14);
        x.seat(2, 0, 0, 1, 5);
        x.fall(1);
        due("one has fallen, the other is down by it", x.push(0, 1), 0);
        says("a PROP pushes up (less)");
        OldBeams y = oneBeam();
        y.prop(0, 0, 3);
        y.prop(0, 10, 9999);
        due("not set", y.push(0, 1), 0);
        y.set(0, true);
        y.set(1, true);
        due("at 0", y.push(0, 0), -3);
        due("at 10", y.push(0, 1), -9999);
        pushes();
    }

    private static void pushes() {
        says("by how far both SEATS are apart, cut down (also below 0)");
        int[] weights = {1, 3, 4, 5, 8, 9};
        int[] behind = {0, 0, 1, 1, 2, 2};
        int[] ahead = {-1, -1, -1, -2, -2, -3};
        for (int i = 0; i < weights.length; i++) {
            OldBeams x = seated(10, 3, 7);
            x.load(0, 4, weights[i]);
            due("one place behind seat 0: " + weights[i], x.push(0, 1), behind[i]);
            OldBeams y = seated(10, 3, 7);
            y.load(0, 2, weights[i]);
            due("one place ahead of seat 0: " + weights[i], y.push(0, 1), ahead[i]);
            due("of seat 0 what is left: " + weights[i], y.push(0, 0), weights[i] - ahead[i]);
        }
        OldBeams near = seated(3, 1, 2);
        near.load(0, 3, 7);
        near.load(0, 0, 2);
        due("one apart", near.push(0, 1), 12);
        due("one apart", near.push(0, 0), -3);
        says("BEAMS are reckoned from the greatest number down");
        OldBeams z = beams(12);
        for (int i = 1; i < 12; i++) z.seat(i, 0, 0, i - 1, 0);
        z.load(11, 0, 77);
        due("down through all", z.push(0, 0), 77);
        greatForces();
        says("A BEAM LIFTS, if a PUSH of it is below 0");
        due("seat 1 by -1", lifted(3, 7, 2, 1), 1);
        due("seat 1 by 0", lifted(3, 7, 3, 1), 0);
        due("seat 0 by -1", lifted(0, 9, 10, 9), 1);
        due("seat 0 by 0", lifted(0, 9, 9, 9), 0);
        due("no push at all", oneBeam().lifts(0), 0);
    }

    private static int lifted(int first, int second, int place, int weight) {
        OldBeams x = seated(10, first, second);
        x.load(0, place, weight);
        return x.lifts(0);
    }

    /** Each beam's seats are at 40 and 60, on 0 and 60 of the next: what is at 0 grows threefold, far beyond an int. */
    private static void greatForces() {
        OldBeams x = new OldBeams();
        for (int i = 0; i < 12; i++) {
            x.beam(0, 60, 40, 40, 0);
            x.seat(i, 0, 40, i == 0 ? NONE : i - 1, 0);
            x.seat(i, 1, 60, i == 0 ? NONE : i - 1, 60);
        }
        for (int i = 0; i < 40; i++) x.load(11, 0, 9999);
        long all = 40 * 9999;
        long atZero = 177147 * all;
        due("seat 0", x.push(0, 0), 3 * atZero);
        due("seat 1", x.push(0, 1), all - 3 * atZero);
        due("at 40", x.bending(0, 40), 40 * atZero);
        due("the greatest", x.greatest(0, false), 40 * atZero);
        due("the greatest is at", x.greatest(0, true), 40);
    }

    private static void bending() {
        says("what all FORCES at lesser places push, each times how far x is behind it, less what SEATS at lesser places push, likewise");
        OldBeams x = seated(10, 2, 8);
        x.load(0, 0, 6);
        long[] first = {0, 6, 12, 10, 8, 6, 4, 2, 0, 0, 0};
        for (int p = 0; p <= 10; p++) due("a load at 0: at " + p, x.bending(0, p), first[p]);
        OldBeams y = seated(10, 2, 8);
        y.load(0, 10, 6);
        long[] last = {0, 0, 0, 2, 4, 6, 8, 10, 12, 6, 0};
        for (int p = 0; p <= 10; p++) due("a load at 10: at " + p, y.bending(0, p), last[p]);
        says("THE GREATEST BENDING: the greatest size at any place 0 to LENGTH");
        due("nothing: at 0", oneBeam().greatest(0, false), 0);
        due("nothing: at 0", oneBeam().greatest(0, true), 0);
        due("below 0", needsFour().bending(0, 5), -400);
        due("below 0", needsFour().greatest(0, false), 400);
        due("above 0", x.greatest(0, false), 12);
        due("above 0: at", x.greatest(0, true), 2);
        due("none beyond seat 1", y.greatest(0, false), 12);
        due("none beyond seat 1: at", y.greatest(0, true), 8);
        y.takeOff(0);
        due("nothing again: at 0", y.greatest(0, false), 0);
        due("nothing again: at 0", y.greatest(0, true), 0);
        // Seat 1 pushes (50 - 5) by 10, which is 4, seat 0 nothing: the prop alone bends, most at the end.
        OldBeams z = oneBeam();
        z.load(0, 10, 5);
        z.prop(0, 5, 1);
        z.set(0, true);
        due("at the end", z.greatest(0, false), 5);
        due("at the end", z.greatest(0, true), 10);
    }

    private static void strength() {
        says("GRADE of its KIND times WIDTH times HEIGHT times HEIGHT, by 100, cut");
        int[] grades = {1, 99, 100, 199, 200, 999};
        int[] whole = {0, 0, 1, 1, 2, 9};
        for (int i = 0; i < grades.length; i++) {
            OldBeams x = new OldBeams();
            x.kind(0, 0, grades[i]);
            x.beam(0, 2, 1, 1, 0);
            x.beam(0, 2, 40, 40, 0);
            due("of the least one, grade " + grades[i], x.about(0, 5), whole[i]);
            due("of the greatest one, grade " + grades[i], x.about(1, 5), 640 * grades[i]);
        }
        says("With a SHARE of t tenths (0 to 10) it BEARS that times t by 10, cut");
        range("share", 0, 10, 1, OUTSIDE, t -> oneBeam().holds(0, t));
        int[] bend = {0, 1, 2, 3, 4, 17, 18, 19, 20};
        int[] needs = {0, 1, 2, 2, 3, 9, 10, 10, NONE};
        for (int i = 0; i < bend.length; i++) due("19 against " + bend[i], bentOnce(19, bend[i]).needs(0), needs[i]);
        due("1 with 0 tenths is enough for nothing", bentOnce(1, 0).needs(0), 0);
        due("1 with 9 tenths is 0", bentOnce(1, 1).holds(0, 9), 0);
        due("1 with 10 tenths is 1", bentOnce(1, 1).holds(0, 10), 1);
        says("It HOLDS with that SHARE, if it does not LIFT, and THE GREATEST BENDING is no more");
        due("as much", bentOnce(40, 40).holds(0, 10), 1);
        due("one more", bentOnce(40, 41).holds(0, 10), 0);
        due("as much as nothing", bentOnce(40, 0).holds(0, 0), 1);
        OldBeams lifting = seated(10, 0, 9);
        lifting.load(0, 10, 9);
        due("strong enough, but it lifts", lifting.holds(0, 10), 0);
        says("THE FRAME STANDS with SHARES, if each BEAM that is not DOWN HOLDS, and none is DOWN");
        due("no beam", new OldBeams().stands(0, 0, false), 1);
        due("nothing on twelve", beams(12).stands(0, 0, false), 1);
        for (int i : new int[] {0, 11}) {
            OldBeams x = beams(12);
            x.load(i, 5, 402);
            due("one does not hold", x.stands(0, 0, true), 0);
            OldBeams y = beams(12);
            y.fall(i);
            due("one is down", y.stands(0, 0, true), 0);
        }
    }

    /** A beam of length 2 and such whole strength that bends by so much. */
    private static OldBeams bentOnce(int whole, int by) {
        OldBeams x = new OldBeams();
        x.beam(0, 2, whole, 1, 0);
        if (by > 0) x.load(0, 1, 2 * by);
        return x;
    }

    private static void shares() {
        says("each BEAM has a WEIGHT for each of 0 to 10 tenths (0 to 99; all 1 at first)");
        range("share", 0, 10, 1, OUTSIDE, t -> oneBeam().weight(0, t, 50));
        range("weight", 0, 99, 1, OUTSIDE, v -> oneBeam().weight(0, 5, v));
        for (int t = 0; t <= 10; t++) due("odds at first", oneBeam().odds(0, t, 0), 1);
        for (int t = 0; t <= 10; t++) due("odds of the twelfth", beams(12).odds(11, t, 0), 1);
    }

    private static void tools() {
        says("TOOLS 0 to 3");
        range("tool", 0, 3, 0, UNKNOWN, t -> new OldBeams().tool(t, 10, 9));
        range("look with tool", 0, 3, 0, UNKNOWN, t -> oneBeam().look(0, t, 0, 0));
        range("worth of tool", 0, 3, 0, UNKNOWN, t -> oneBeam().worth(0, t, 0, true));
        says("two OUTCOMES");
        range("outcome", 0, 1, 0, OUTSIDE, o -> oneBeam().look(0, 0, o, 0));
        says("for each SHARE a number 0 to 9 (of 9) how often OUTCOME 1 comes (of the others OUTCOME 0; 0 of all at first)");
        range("share", 0, 10, 0, OUTSIDE, t -> new OldBeams().tool(3, t, 9));
        range("number", 0, 9, 0, OUTSIDE, v -> new OldBeams().tool(0, 0, v));
        for (int tool = 0; tool < 4; tool++) {
            for (int t = 0; t <= 10; t++) due("at first", new OldBeams().tool(tool, t, 9), 0);
        }
        OldBeams x = oneBeam();
        x.look(0, 0, 1, 0);
        due("outcome 1 never comes at first", x.quarrel(0, 0), 0);
    }

    private static void looks() {
        says("LOOKS (60 at most, 8 at a BEAM)");
        OldBeams x = beams(12);
        for (int i = 0; i < 8; i++) due("at beam 0", x.look(0, 0, 0, 0), i);
        due("9th at it", x.look(0, 0, 0, 0), FULL);
        for (int i = 8; i < 60; i++) due("at others", x.look(1 + i % 11, 0, 0, 0), i);
        for (int b = 0; b < 12; b++) due("61st", x.look(b, 0, 0, 0), FULL);
        says("in a YEAR no earlier than that of the LOOK ahead");
        range("the first of all", 0, 500, 0, OUTSIDE, y -> oneBeam().look(0, 0, 0, y));
        OldBeams y = beams(2);
        y.look(0, 0, 0, 7);
        due("one year earlier", y.look(0, 0, 0, 6), STATE);
        due("one year earlier at another", y.look(1, 0, 0, 6), STATE);
        due("the same year", y.look(1, 0, 0, 7), 1);
        due("the last year", y.look(1, 0, 0, 500), 2);
        due("one year earlier", y.look(0, 0, 0, 499), STATE);
        due("the same year", y.look(0, 0, 0, 500), 3);
    }

    private static void odds() {
        says("for each LOOK at it by then (that YEAR too)");
        OldBeams x = beams(2);
        x.tool(0, 10, 9);
        x.look(0, 0, 1, 100);
        due("one year ahead", x.odds(0, 0, 99), 1);
        due("that year", x.odds(0, 0, 100), 0);
        due("long behind it", x.odds(0, 0, 500), 0);
        due("not a look at it", x.odds(1, 0, 500), 1);
        says("how often its OUTCOME comes of t (OUTCOME 0: 9 less the number)");
        long[] zero = {9, 8, 7, 6, 5, 4, 3, 2, 1, 0, 9};
        long[] one = {0, 1, 2, 3, 4, 5, 6, 7, 8, 9, 0};
        for (int t = 0; t <= 10; t++) {
            due("outcome 0", ladder(0).odds(0, t, 0), zero[t]);
            due("outcome 1", ladder(1).odds(0, t, 0), one[t]);
        }
        says("after each LOOK all eleven are divided by what they have in common");
        OldBeams y = oneBeam();
        for (int t = 0; t <= 10; t++) y.weight(0, t, t < 10 ? 12 : 18);
        due("no look yet", y.odds(0, 10, 0), 18);
        y.look(0, 0, 0, 0);
        due("2 and 3", y.odds(0, 0, 0), 2);
        due("2 and 3", y.odds(0, 10, 0), 3);
        greatOdds();
        quarrels();
    }

    /** A look with a tool whose numbers are 0, 1, .. 9, 0. */
    private static OldBeams ladder(int outcome) {
        OldBeams x = oneBeam();
        for (int t = 0; t <= 9; t++) x.tool(0, t, t);
        x.look(0, 0, outcome, 0);
        return x;
    }

    /** 99 times 9 to the 8th, beyond an int; and the other end of the row, 1. */
    private static void greatOdds() {
        OldBeams x = oneBeam();
        onlyShare(x, 0, 10);
        x.weight(0, 10, 99);
        x.weight(0, 0, 1);
        x.tool(0, 0, 1);
        x.tool(0, 10, 9);
        for (int i = 0; i < 8; i++) x.look(0, 0, 1, 0);
        due("the greatest odds", x.odds(0, 10, 0), 99L * 43046721L);
        due("beside them", x.odds(0, 0, 0), 1);
        due("and none", x.odds(0, 5, 0), 0);
    }

    private static void quarrels() {
        says("If all are 0, they QUARREL: that LOOK does not count (it is left out)");
        OldBeams x = oneBeam();
        for (int t = 0; t <= 10; t++) x.weight(0, t, 4);
        x.tool(0, 3, 1);
        x.look(0, 1, 1, 5);
        due("all are 0", x.quarrel(0, 5), 0);
        due("as if it were not there", x.odds(0, 3, 5), 4);
        x.look(0, 0, 1, 6);
        due("one is not 0: no quarrel", x.odds(0, 3, 6), 1);
        due("the first one still", x.quarrel(0, 6), 0);
        x.look(0, 0, 0, 7);
        due("8 of 9 are left", x.odds(0, 3, 7), 1);
        says("MAY BE: SHARES whose ODDS are above 0");
        due("3 alone", x.share(0, 7, 7, false), 3);
        due("3 alone", x.share(0, 7, 7, true), 3);
        due("all ahead of it", x.share(0, 5, 5, false), 0);
        due("all ahead of it", x.share(0, 5, 5, true), 10);
    }

    private static void rot() {
        says("(later less earlier) times ROT of the KIND (DRY or WET), by 10, cut");
        OldBeams x = oneBeam();
        x.wet(0, true);
        int[] years = {0, 9, 10, 19, 20, 99, 100};
        int[] left = {10, 10, 9, 9, 8, 1, 0};
        for (int i = 0; i < years.length; i++) {
            due("from 0, years " + years[i], x.share(0, 0, years[i], true), left[i]);
            due("from 300, years " + years[i], x.share(0, 300, 300 + years[i], true), left[i]);
        }
        x.kind(0, 2, 7);
        due("1 year of 7", x.share(0, 0, 1, true), 10);
        due("2 years of 7", x.share(0, 0, 2, true), 9);
        says("a SHARE is 0 at least");
        x.kind(0, 2, 10);
        due("10 years of 10", x.share(0, 0, 10, true), 0);
        due("11 years of 10", x.share(0, 0, 11, true), 0);
        due("500 years of 10", x.share(0, 0, 500, true), 0);
        due("500 years of 10, of 0", x.share(0, 0, 500, false), 0);
    }

    private static void standing() {
        says("THE FRAME with the least SHARE that MAY BE of each, less ROT till then");
        OldBeams x = needsFour();
        for (int t = 0; t < 4; t++) {
            due("surely, with " + t + " too", x.stands(0, 0, false), 0);
            x.weight(0, t, 0);
        }
        due("surely, from 4 on", x.stands(0, 0, false), 1);
        x.wet(0, true);
        due("no tenth lost", x.stands(0, 9, false), 1);
        due("one tenth lost", x.stands(0, 10, false), 0);
        due("no tenth lost since 100", x.stands(100, 109, false), 1);
        due("one tenth lost since 100", x.stands(100, 110, false), 0);
        says("MAY STAND: with the greatest");
        for (int t = 10; t > 4; t--) {
            due("may be, up to " + t, x.stands(0, 10 * (t - 4) + 9, true), 1);
            due("may be no more, up to " + t, x.stands(0, 10 * (t - 3), true), 0);
            x.weight(0, t, 0);
        }
        due("may be, 4 alone", x.stands(0, 9, true), 1);
        due("may be no more", x.stands(0, 10, true), 0);
        says("the latest of the YEARS from .. to 500 in which it SURELY STANDS (MAY STAND), from a YEAR on, one behind the other");
        due("10 years", x.until(0, false), 9);
        due("from another year on", x.until(490, false), 499);
        due("to 500 and no more", x.until(491, false), 500);
        due("to 500 and no more", x.until(500, true), 500);
        due("without rot", needsFour().until(0, true), 500);
        says("NONE: not even in that");
        due("surely", needsFour().until(0, false), NONE);
        due("surely, in the last", needsFour().until(500, false), NONE);
        OldBeams y = oneBeam();
        y.fall(0);
        due("down", y.until(0, true), NONE);
    }

    private static void chances() {
        says("CHANCE of a BEAM that is not DOWN: ODDS of SHARES with which it HOLDS, together, by all ODDS (a FRACTION)");
        due("down", halfDown().chance(1, 0, true), STATE);
        for (int t = 0; t <= 10; t++) {
            OldBeams x = needsFour();
            onlyShare(x, 0, t);
            int known = t;
            fraction("only " + known, t < 4 ? 0 : 1, 1, upper -> x.chance(0, 0, upper));
        }
        OldBeams heavy = oneBeam();
        heavy.load(0, 5, 9999);
        fraction("far too much", 0, 1, upper -> heavy.chance(0, 0, upper));
        OldBeams y = needsFour();
        fraction("all alike", 7, 11, upper -> y.chance(0, 0, upper));
        says("WEAKEST: the BEAM of least CHANCE, of like ones the least");
        OldBeams z = beams(12);
        due("all alike", z.weakest(0), 0);
        z.load(11, 5, 2);
        due("the last", z.weakest(0), 11);
        z.load(7, 5, 2);
        due("7 like 11", z.weakest(0), 7);
        z.weight(11, 0, 2);
        due("2 of 12 lost, not 1 of 11", z.weakest(0), 11);
        nearChances();
        due("no beam", new OldBeams().weakest(0), NONE);
    }

    /** Pairs of chances, the lesser one first, that differ late in their continued fractions; each order of the beams. */
    private static void nearChances() {
        int[][] pairs = {{1, 3, 1, 2}, {2, 5, 1, 2}, {3, 8, 2, 5}, {3, 8, 5, 13}, {8, 21, 5, 13}, {21, 55, 13, 34},
            {97, 196, 49, 99}, {0, 1, 1, 100}, {98, 99, 1, 1}, {49, 99, 50, 101}};
        for (int[] p : pairs) {
            due("lesser first " + p[0], twoChances(p[0], p[1], p[2], p[3]).weakest(0), 0);
            due("lesser last " + p[0], twoChances(p[2], p[3], p[0], p[1]).weakest(0), 1);
            due("alike " + p[0], twoChances(p[0], p[1], p[0], p[1]).weakest(0), 0);
        }
    }

    private static OldBeams twoChances(int above, int below, int otherAbove, int otherBelow) {
        OldBeams x = beams(2);
        int[][] odds = {{below - above, above}, {otherBelow - otherAbove, otherAbove}};
        for (int b = 0; b < 2; b++) {
            x.load(b, 5, 400);
            onlyShare(x, b, odds[b][0] > 0 ? 0 : 10);
            if (odds[b][0] > 0) x.weight(b, 0, odds[b][0]);
            x.weight(b, 10, odds[b][1]);
        }
        return x;
    }

    private static void triedFalls() {
        says("then, step by step, all that do not HOLD with the least SHARES that MAY BE, the least BEAM first, one at a time");
        OldBeams x = beams(4);
        for (int i = 0; i < 3; i++) x.load(i, 5, 2);
        int[] order = {3, 0, 1, 2, NONE};
        for (int i = 0; i < order.length; i++) due("falls by itself: " + i, x.chainAt(3, 0, i), order[i]);
        onlyShare(x, 1, 1);
        due("one that holds with the least that may be", x.chain(3, 0), 3);
        says("(FORCES are reckoned anew behind each), as well those that are DOWN by others");
        // Beam 1 rests on 0 and bends it too much; 0 holds once 1 has fallen.
        OldBeams y = beams(3);
        y.seat(1, 1, 10, 0, 5);
        y.load(1, 10, 2);
        due("0 is relieved by the fall of 1", y.chain(1, 0), 1);
        due("0 falls first, and 1 is down by it", y.chain(2, 0), 3);
        due("0 falls by itself", y.chainAt(2, 0, 1), 0);
        due("1 does not", y.chainAt(2, 0, 2), NONE);
        says("It is tried alone: nothing is changed");
        due("none is down", y.count(5), 0);
        due("1 pushes still", y.push(0, 1), 1);
    }

    private static void props() {
        says("PLACES for props 0, 1, .. (8 at most)");
        OldBeams x = oneBeam();
        for (int i = 0; i < 8; i++) due("prop", x.prop(0, 0, 1), i);
        due("9th", x.prop(0, 0, 1), FULL);
        due("a 9th is not there", x.set(8, true), UNKNOWN);
        due("the 8th is", x.set(7, true), 0);
        says("a BEAM, a place of it, a PUSH (1 to 9999): SET or not");
        range("place", 0, 10, 0, OUTSIDE, p -> oneBeam().prop(0, p, 1));
        range("push", 1, 9999, 0, OUTSIDE, v -> oneBeam().prop(0, 0, v));
        due("not set at first", oneProp().set(0, true), 0);
        says("so few SET (others not) that THE FRAME SURELY STANDS in a YEAR");
        due("none is needed", oneProp().fewest(0), 0);
        due("none is needed for twelve", beams(12).fewest(0), 0);
        OldBeams set = oneProp();
        set.set(0, true);
        due("none is needed, though one is set that lifts", set.fewest(0), 0);
        OldBeams y = oneBeam();
        y.load(0, 5, 8);
        for (int i = 0; i < 8; i++) y.prop(0, 5, 1);
        due("all eight", y.fewest(0), 8);
        y.load(0, 5, 1);
        due("more than all", y.fewest(0), NONE);
        says("of as many the first by PLACES");
        OldBeams z = oneBeam();
        z.load(0, 5, 10);
        for (int push : new int[] {1, 4, 6, 9, 10, 10}) z.prop(0, 5, push);
        due("one is enough", z.fewest(0), 1);
        due("the first of two such", z.needed(0, 0), 4);
        OldBeams two = oneBeam();
        two.load(0, 5, 10);
        for (int push : new int[] {1, 4, 6, 9, 9}) two.prop(0, 5, push);
        due("0 and 3, ahead of 0 and 4, 1 and 2", two.needed(0, 0), 0);
        due("0 and 3, ahead of 0 and 4, 1 and 2", two.needed(0, 1), 3);
        says("NONE.");
        due("no place for a prop", needsFour().fewest(0), NONE);
        OldBeams down = oneProp();
        down.fall(0);
        due("one is down", down.fewest(0), NONE);
    }

    private static OldBeams oneProp() {
        OldBeams x = oneBeam();
        x.prop(0, 5, 1);
        return x;
    }

    private static void choices() {
        says("to mend it costs MEND (0 to 9999; 100 at first)");
        range("mend", 0, 9999, 100, OUTSIDE, v -> new OldBeams().price(0, v));
        says("not to costs LOSS (0 to 9999; 1000 at first) if it does not HOLD");
        range("loss", 0, 9999, 1000, OUTSIDE, v -> new OldBeams().price(1, v));
        says("THE MEAN COST: the lesser of MEND, and LOSS times (1 less CHANCE)");
        OldBeams x = needsFour();
        x.price(1, 1100);
        x.price(0, 401);
        fraction("loss is the lesser", 400, 1, upper -> x.mean(0, 0, upper));
        x.price(0, 400);
        fraction("both are alike", 400, 1, upper -> x.mean(0, 0, upper));
        x.price(0, 399);
        fraction("mend is the lesser", 399, 1, upper -> x.mean(0, 0, upper));
        x.price(0, 0);
        fraction("mend costs nothing", 0, 1, upper -> x.mean(0, 0, upper));
        x.price(0, 9999);
        x.price(1, 9999);
        fraction("the dearest", 9999 * 4 / 11, 1, upper -> x.mean(0, 0, upper));
        x.price(1, 0);
        fraction("loss costs nothing", 0, 1, upper -> x.mean(0, 0, upper));
        worths();
    }

    private static void worths() {
        says("by its two OUTCOMES (a FRACTION, never below 0)");
        OldBeams x = needsFour();
        toolFrom(x, 1, 0, 9, 9);
        toolFrom(x, 2, 4, 9, 0);
        toolFrom(x, 3, 4, 0, 9);
        fraction("outcome 1 never comes", 0, 1, upper -> x.worth(0, 0, 0, upper));
        fraction("outcome 0 never comes", 0, 1, upper -> x.worth(0, 1, 0, upper));
        // 100 ahead; behind 7 of 11 times 0 and 4 of 11 times 100.
        fraction("a sure one", 700, 11, upper -> x.worth(0, 2, 0, upper));
        fraction("a sure one, turned round", 700, 11, upper -> x.worth(0, 3, 0, upper));
        x.price(0, 0);
        fraction("nothing to win", 0, 1, upper -> x.worth(0, 2, 0, upper));
        x.price(0, 9999);
        x.price(1, 9999);
        fraction("mending is never worth it", 0, 1, upper -> x.worth(0, 2, 0, upper));
        greatWorth();
    }

    /** The greatest odds and prices: 9 times 9999 times all odds is some 10 to the 15th. */
    private static void greatWorth() {
        OldBeams x = needsFour();
        for (int t = 0; t <= 10; t++) x.weight(0, t, 99);
        x.weight(0, 10, 98);
        toolFrom(x, 0, 0, 9, 9);
        toolFrom(x, 1, 4, 9, 0);
        for (int i = 0; i < 8; i++) x.look(0, 0, 1, 0);
        x.price(0, 5000);
        x.price(1, 9999);
        // All odds: 10 * 99 + 98 is 1088, lost 396. Ahead 9999 * 396 by 1088; behind 5000 * 396 by 1088.
        fraction("divided by nine each time", 494901, 272, upper -> x.worth(0, 1, 0, upper));
        OldBeams y = needsFour();
        y.weight(0, 0, 99);
        y.weight(0, 10, 98);
        y.tool(0, 0, 9);
        y.tool(0, 10, 8);
        toolFrom(y, 1, 4, 9, 0);
        for (int i = 0; i < 8; i++) y.look(0, 0, 1, 0);
        y.price(0, 9998);
        y.price(1, 9999);
        long lost = 99L * 43046721L;
        long all = lost + 98L * 16777216L;
        // Ahead 9999 * lost by all, as more than a quarter holds; behind 9998 * lost by all.
        fraction("great odds", lost, all, upper -> y.worth(0, 1, 0, upper));
    }

    private static void bestLooks() {
        says("of greatest WORTH, of like ones the least BEAM, then TOOL; NONE: all are worth 0");
        due("no beam", new OldBeams().bestLook(0), NONE);
        OldBeams x = beams(12);
        due("all are worth 0", x.bestLook(0), NONE);
        toolFrom(x, 3, 4, 9, 0);
        due("nothing on them", x.bestLook(0), NONE);
        x.load(11, 5, 160);
        due("the last beam, the last tool", x.bestLook(0), 113);
        x.load(4, 5, 160);
        due("a lesser beam", x.bestLook(0), 43);
        toolFrom(x, 1, 4, 9, 0);
        due("a lesser tool", x.bestLook(0), 41);
        toolFrom(x, 0, 4, 8, 0);
        due("tool 0 is worth less", x.bestLook(0), 41);
        x.fall(4);
        due("not one that is down", x.bestLook(0), 111);
        x.fall(11);
        due("none is left that is worth anything", x.bestLook(0), NONE);
        // 1 of 100 holds: mend for 1 ahead, and behind a sure look for 99 of 100: it is worth 1 of 100.
        OldBeams y = oneBeam();
        y.load(0, 5, 400);
        onlyShare(y, 0, 10);
        y.weight(0, 9, 99);
        y.price(0, 1);
        toolFrom(y, 2, 10, 9, 0);
        fraction("worth hardly anything", 1, 100, upper -> y.worth(0, 2, 0, upper));
        due("but not 0", y.bestLook(0), 2);
    }
}
