/** For each promise: every refusal, every NONE and every number that its sentences name, with the values beside it. */
public final class PromiseEdgeTest extends Checks {
    /** What a promise says of its edges: refusals and NONE with what follows them, and all numbers. */
    private static final String EDGES = "(UNKNOWN|OUTSIDE|STATE|FULL|NONE)[^;.)`]*|(?<![0-9A-Za-z])[0-9]+|i-th|[Nn]othing is changed|no ROT";

    public static void main(String[] args) {
        newObject();
        kind();
        beam();
        seat();
        seatRefusals();
        about();
        wet();
        load();
        takeOff();
        fall();
        push();
        bending();
        greatest();
        lifts();
        holds();
        needs();
        weight();
        tool();
        look();
        odds();
        quarrel();
        share();
        stands();
        until();
        chance();
        weakest();
        chain();
        chainAt();
        prop();
        set();
        fewest();
        needed();
        price();
        mean();
        worth();
        bestLook();
        count();
        for (int promise = 1; promise <= 36; promise++) allQuoted("Promise " + promise, EDGES);
        end("all answers are as due");
    }

    private static void newObject() {
        begin("Promise 1");
        says("No BEAMS.");
        OldBeams x = new OldBeams();
        for (int what = 0; what <= 5; what++) due("count(" + what + ")", x.count(what), 0);
        for (int b = 0; b < 12; b++) due("about(" + b + ", 0)", x.about(b, 0), UNKNOWN);
        due("it stands", x.stands(0, 500, false), 1);
        due("it may stand", x.stands(500, 500, true), 1);
        due("until", x.until(0, false), 500);
        due("until", x.until(500, true), 500);
        due("weakest", x.weakest(0), NONE);
        due("fewest", x.fewest(0), 0);
        due("needed", x.needed(0, 0), NONE);
        due("bestLook", x.bestLook(0), NONE);
        due("another object's beam is not here", oneBeam().count(0) + x.count(0), 1);
    }

    private static void kind() {
        begin("Promise 2");
        says("GRADE of a KIND (what = 0), ROT in the dry (1), in the wet (2): what it was");
        long[] first = {100, 0, 1};
        for (int k = 0; k <= 3; k++) {
            OldBeams x = new OldBeams();
            for (int what = 0; what <= 2; what++) due("at first", x.kind(k, what, 7 + what), first[what]);
            for (int what = 0; what <= 2; what++) due("then", x.kind(k, what, 7 + what), 7 + what);
            for (int other = 0; other <= 3; other++) if (other != k) due("of another", x.kind(other, 0, 1), 100);
        }
        says("UNKNOWN; OUTSIDE");
        refused("kind", 0, 3, UNKNOWN, k -> new OldBeams().kind(k, 0, 1));
        refused("what", 0, 2, OUTSIDE, what -> new OldBeams().kind(0, what, 5));
        refused("grade", 1, 999, OUTSIDE, v -> new OldBeams().kind(0, 0, v));
        refused("rot in the dry", 0, 10, OUTSIDE, v -> new OldBeams().kind(0, 1, v));
        refused("rot in the wet", 0, 10, OUTSIDE, v -> new OldBeams().kind(0, 2, v));
    }

    private static void beam() {
        begin("Promise 3");
        says("A BEAM, its SEATS at its ends, on POSTS: its number");
        for (int length : new int[] {2, 60}) {
            OldBeams x = new OldBeams();
            due("its number", x.beam(3, length, 40, 40, 500), 0);
            long[] due = {length, 0, length, NONE, NONE, 64000, 0, 0};
            for (int what = 0; what <= 7; what++) due("about(0, " + what + ")", x.about(0, what), due[what]);
        }
        says("UNKNOWN: kind");
        refused("kind", 0, 3, UNKNOWN, k -> new OldBeams().beam(k, 2, 1, 1, 0));
        says("OUTSIDE");
        refused("length", 2, 60, OUTSIDE, v -> new OldBeams().beam(0, v, 1, 1, 0));
        refused("width", 1, 40, OUTSIDE, v -> new OldBeams().beam(0, 2, v, 1, 0));
        refused("height", 1, 40, OUTSIDE, v -> new OldBeams().beam(0, 2, 1, v, 0));
        refused("year", 0, 500, OUTSIDE, v -> new OldBeams().beam(0, 2, 1, 1, v));
        says("FULL: 12");
        due("the 12th", beams(11).beam(0, 2, 1, 1, 0), 11);
        due("the 13th", beams(12).beam(0, 2, 1, 1, 0), FULL);
        OldBeams fallen = beams(12);
        fallen.fall(3);
        due("the 13th, when one has fallen", fallen.beam(0, 2, 1, 1, 0), FULL);
    }

    private static void seat() {
        begin("Promise 4");
        says("A SEAT (0, 1) of a BEAM is at a place of it, on a place of another BEAM");
        OldBeams x = tower();
        due("seat 0", x.seat(3, 0, 1, 2, 10), 0);
        due("seat 1", x.seat(3, 1, 9, 0, 0), 10);
        long[] due = {10, 1, 9, 2, 0};
        for (int what = 0; what <= 4; what++) due("about(3, " + what + ")", x.about(3, what), due[what]);
        says("(on = NONE: a POST; where does not matter then)");
        for (int where : WILD) due("where " + where, tower().seat(1, 0, 0, NONE, where), 0);
        due("off a beam", x.seat(3, 0, 1, NONE, Integer.MIN_VALUE), 1);
        due("on what", x.about(3, 3), NONE);
        x.load(3, 1, 9);
        due("it pushes on no beam", x.push(2, 0) + x.push(2, 1), 0);
        says("at which place of it it was");
        due("at 1", x.seat(3, 0, 2, NONE, 0), 1);
        due("at 2", x.seat(3, 0, 2, NONE, 0), 2);
        due("at 9", x.seat(3, 1, 10, NONE, 0), 9);
        OldBeams down = halfDown();
        due("one that is down", down.seat(1, 0, 3, NONE, 0), 0);
        due("it is still down", down.about(1, 7), 1);
    }

    private static void seatRefusals() {
        begin("Promise 4");
        says("UNKNOWN: beam");
        unknownBeams("seat", (x, b) -> x.seat(b, 0, 0, NONE, 0));
        says("OUTSIDE: seat, place");
        refused("seat", 0, 1, OUTSIDE, s -> tower().seat(3, s, 5, NONE, 0));
        refused("place", 0, 10, OUTSIDE, p -> tower().seat(3, 0, p, NONE, 0));
        refused("place of seat 1", 0, 10, OUTSIDE, p -> tower().seat(3, 1, p, NONE, 0));
        says("STATE: on is no BEAM of lesser number");
        for (int b = 0; b < 4; b++) {
            for (int on : new int[] {-1, b, b + 1, 4, 11, 12, Integer.MIN_VALUE, Integer.MAX_VALUE, NONE - 1, NONE + 1}) {
                due(b + " on " + on, tower().seat(b, 0, 0, on, 0), STATE);
            }
        }
        says("OUTSIDE: where (0 to its LENGTH)");
        range("where", 0, 10, 0, OUTSIDE, w -> tower().seat(3, 0, 0, 2, w));
        says("STATE: SEATS would not be so far apart, SEAT 0 ahead");
        due("4 of 10", tower().seat(3, 0, 6, NONE, 0), 0);
        due("3 of 10", tower().seat(3, 0, 7, NONE, 0), STATE);
        due("none", tower().seat(3, 0, 10, NONE, 0), STATE);
        due("seat 1: 4 of 10", tower().seat(3, 1, 4, 0, 5), 10);
        due("seat 1: 3 of 10", tower().seat(3, 1, 3, 0, 5), STATE);
        due("seat 1: none", tower().seat(3, 1, 0, 0, 5), STATE);
        due("seat 0 behind by 4", seated(10, 0, 4).seat(0, 0, 8, NONE, 0), STATE);
        due("seat 0 behind by 4, on a post again", seated(10, 6, 10).seat(0, 1, 2, NONE, 0), STATE);
    }

    private static void about() {
        begin("Promise 5");
        says("LENGTH (what = 0), place of SEAT 0 (1), of SEAT 1 (2), on what SEAT 0 is (3; NONE: a POST), SEAT 1 (4), WHOLE strength (5), whether it is WET (6), DOWN (7)");
        OldBeams x = tower();
        long[] first = {10, 0, 10, NONE, NONE, 1000, 0, 0};
        for (int what = 0; what <= 7; what++) due("about(3, " + what + ")", x.about(3, what), first[what]);
        x.seat(3, 0, 1, 0, 0);
        x.seat(3, 1, 8, 2, 0);
        x.wet(3, true);
        x.fall(2);
        long[] then = {10, 1, 8, 0, 2, 1000, 1, 1};
        for (int what = 0; what <= 7; what++) due("about(3, " + what + ")", x.about(3, what), then[what]);
        says("UNKNOWN; OUTSIDE");
        unknownBeams("about", (y, b) -> y.about(b, 0));
        refused("what", 0, 7, OUTSIDE, what -> oneBeam().about(0, what));
    }

    private static void wet() {
        begin("Promise 6");
        says("how it was: 1, 0");
        OldBeams x = beams(2);
        due("dry at first", x.wet(0, false), 0);
        due("dry", x.wet(0, true), 0);
        due("wet", x.wet(0, true), 1);
        due("the other is dry", x.wet(1, true), 0);
        due("wet", x.wet(0, false), 1);
        due("dry again", x.about(0, 6), 0);
        due("one that is down", halfDown().wet(1, true), 0);
        says("UNKNOWN");
        unknownBeams("wet", (y, b) -> y.wet(b, true));
    }

    private static void load() {
        begin("Promise 7");
        says("UNKNOWN: beam");
        unknownBeams("load", (x, b) -> x.load(b, 0, 1));
        says("OUTSIDE");
        range("place", 0, 10, 0, OUTSIDE, p -> oneBeam().load(0, p, 1));
        refused("weight", 1, 9999, OUTSIDE, w -> oneBeam().load(0, 0, w));
        says("FULL: 40");
        OldBeams x = beams(2);
        for (int i = 0; i < 40; i++) due("load", x.load(i % 2, 0, 9999), i);
        due("41st", x.load(0, 0, 1), FULL);
        due("41st", x.load(1, 0, 1), FULL);
        due("all forty push", x.push(0, 0) + x.push(1, 0), 40 * 9999);
        x.takeOff(0);
        due("one that is off is a load still", x.load(0, 0, 1), FULL);
    }

    private static void takeOff() {
        begin("Promise 8");
        says("A LOAD is TAKEN OFF: its WEIGHT");
        OldBeams x = oneBeam();
        x.load(0, 0, 1);
        x.load(0, 0, 9999);
        due("1", x.takeOff(0), 1);
        due("9999", x.takeOff(1), 9999);
        OldBeams down = oneBeam();
        down.load(0, 0, 3);
        down.fall(0);
        due("of a beam that is down", down.takeOff(0), 3);
        says("UNKNOWN; STATE: it was");
        refused("of no loads", 0, -1, UNKNOWN, l -> oneBeam().takeOff(l));
        refused("of one load", 0, 0, UNKNOWN, l -> needsFour().takeOff(l));
        due("it was", x.takeOff(0), STATE);
        due("it was", x.takeOff(1), STATE);
        due("none is left", x.count(1), 0);
    }

    private static void fall() {
        begin("Promise 9");
        says("A BEAM FALLS: how many are DOWN then");
        due("one of one", oneBeam().fall(0), 1);
        due("the last of twelve", beams(12).fall(11), 1);
        OldBeams x = tower();
        due("1 and 2", x.fall(1), 2);
        due("2, which is down", x.fall(2), 2);
        due("0 too", x.fall(0), 3);
        due("all", x.fall(3), 4);
        says("UNKNOWN; STATE: it has FALLEN");
        unknownBeams("fall", (y, b) -> y.fall(b));
        for (int b = 0; b < 4; b++) due("again", x.fall(b), STATE);
        due("down by another it has not fallen", halfDown().fall(2), 4);
    }

    private static void push() {
        begin("Promise 10");
        says("THE PUSH of a SEAT (0, 1)");
        due("seat 0", needsFour().push(0, 0), 80);
        due("seat 1", needsFour().push(0, 1), 80);
        OldBeams x = oneBeam();
        x.load(0, 0, 4);
        x.load(0, 10, 5);
        due("at its very place", x.push(0, 0), 4);
        due("at its very place", x.push(0, 1), 5);
        says("UNKNOWN; OUTSIDE; STATE: it is DOWN");
        unknownBeams("push", (y, b) -> y.push(b, 0));
        refused("seat", 0, 1, OUTSIDE, s -> oneBeam().push(0, s));
        refusedWhenDown("push", (y, b) -> y.push(b, 1));
    }

    private static void bending() {
        begin("Promise 11");
        says("UNKNOWN; OUTSIDE; STATE: it is DOWN");
        unknownBeams("bending", (x, b) -> x.bending(b, 0));
        range("place", 0, 10, 0, OUTSIDE, p -> oneBeam().bending(0, p));
        due("at 4", needsFour().bending(0, 4), -320);
        due("at 5", needsFour().bending(0, 5), -400);
        due("at 6", needsFour().bending(0, 6), -320);
        due("at 10", needsFour().bending(0, 10), 0);
        refusedWhenDown("bending", (x, b) -> x.bending(b, 10));
    }

    private static void greatest() {
        begin("Promise 12");
        says("THE GREATEST BENDING (place = false), the first place with it");
        due("nothing", oneBeam().greatest(0, false), 0);
        due("nothing: the first of all places", oneBeam().greatest(0, true), 0);
        OldBeams x = seated(10, 2, 8);
        x.load(0, 0, 30);
        x.load(0, 5, 60);
        due("60 at 2, -60 at 5", x.greatest(0, false), 60);
        due("the first", x.greatest(0, true), 2);
        // 50 and 50 on both ends: it bends by 100 from 2 to 8.
        OldBeams y = seated(10, 2, 8);
        y.load(0, 0, 50);
        y.load(0, 10, 50);
        due("all between the seats", y.greatest(0, false), 100);
        due("the first of them", y.greatest(0, true), 2);
        says("UNKNOWN; STATE: it is DOWN");
        for (boolean place : BOTH) {
            unknownBeams("greatest", (z, b) -> z.greatest(b, place));
            refusedWhenDown("greatest", (z, b) -> z.greatest(b, place));
        }
    }

    private static void lifts() {
        begin("Promise 13");
        says("Whether a BEAM LIFTS: 1, 0");
        OldBeams x = seated(10, 0, 9);
        x.load(0, 10, 8);
        due("8 * 10 by 9 is 8: seat 0 pushes 0", x.lifts(0), 0);
        x.load(0, 10, 1);
        due("9 * 10 by 9 is 10: seat 0 pushes -1", x.lifts(0), 1);
        x.load(0, 0, 1);
        due("0 again", x.lifts(0), 0);
        says("UNKNOWN; STATE: it is DOWN");
        unknownBeams("lifts", (y, b) -> y.lifts(b));
        refusedWhenDown("lifts", (y, b) -> y.lifts(b));
    }

    private static void holds() {
        begin("Promise 14");
        says("Whether a BEAM HOLDS with a SHARE: 1, 0");
        for (int t = 0; t <= 10; t++) due("with " + t, needsFour().holds(0, t), t < 4 ? 0 : 1);
        says("UNKNOWN; OUTSIDE: share; STATE: it is DOWN");
        unknownBeams("holds", (x, b) -> x.holds(b, 0));
        refused("share", 0, 10, OUTSIDE, t -> oneBeam().holds(0, t));
        refusedWhenDown("holds", (x, b) -> x.holds(b, 10));
    }

    private static void needs() {
        begin("Promise 15");
        says("The least SHARE with which it HOLDS; NONE: it does with none");
        due("nothing on it", oneBeam().needs(0), 0);
        int[] weights = {2, 40, 41, 42, 80, 360, 361, 362, 400, 401, 402};
        int[] needs = {1, 1, 2, 2, 2, 9, 10, 10, 10, NONE, NONE};
        for (int i = 0; i < weights.length; i++) {
            OldBeams x = oneBeam();
            x.load(0, 5, weights[i]);
            due("a load of " + weights[i], x.needs(0), needs[i]);
        }
        OldBeams lifting = seated(10, 0, 9);
        lifting.load(0, 10, 9);
        due("it lifts", lifting.needs(0), NONE);
        says("UNKNOWN; STATE: it is DOWN");
        unknownBeams("needs", (x, b) -> x.needs(b));
        refusedWhenDown("needs", (x, b) -> x.needs(b));
    }

    private static void weight() {
        begin("Promise 16");
        says("WEIGHT of a SHARE of a BEAM: what it was");
        OldBeams x = beams(2);
        due("at first", x.weight(0, 10, 99), 1);
        due("then", x.weight(0, 10, 0), 99);
        due("then", x.weight(0, 10, 0), 0);
        due("of another share", x.weight(0, 9, 3), 1);
        due("of another beam", x.weight(1, 10, 3), 1);
        says("UNKNOWN: beam");
        unknownBeams("weight", (y, b) -> y.weight(b, 0, 2));
        says("OUTSIDE");
        refused("share", 0, 10, OUTSIDE, t -> oneBeam().weight(0, t, 1));
        refused("weight", 0, 99, OUTSIDE, v -> oneBeam().weight(0, 0, v));
        says("STATE: there is a LOOK at it, or all would be 0");
        OldBeams looked = beams(2);
        looked.look(0, 0, 1, 500);
        due("a look at it, though it is left out", looked.weight(0, 0, 1), STATE);
        due("no look at it", looked.weight(1, 0, 1), 1);
        for (int last = 0; last <= 10; last++) {
            OldBeams y = oneBeam();
            onlyShare(y, 0, last);
            due("all would be 0", y.weight(0, last, 0), STATE);
            due("it is kept", y.weight(0, last, 1), 1);
            due("another that is 0 already", y.weight(0, (last + 1) % 11, 0), 0);
        }
    }

    private static void tool() {
        begin("Promise 17");
        says("How often OUTCOME 1 of a TOOL comes of a SHARE: what it was");
        OldBeams x = oneBeam();
        due("at first", x.tool(3, 10, 9), 0);
        due("then", x.tool(3, 10, 0), 9);
        due("all 0 is taken", x.tool(3, 10, 0), 0);
        due("of another share", x.tool(3, 0, 4), 0);
        due("of another tool", x.tool(0, 0, 4), 0);
        says("UNKNOWN: tool");
        refused("tool", 0, 3, UNKNOWN, t -> new OldBeams().tool(t, 0, 0));
        says("OUTSIDE");
        refused("share", 0, 10, OUTSIDE, t -> new OldBeams().tool(0, t, 0));
        refused("number", 0, 9, OUTSIDE, v -> new OldBeams().tool(0, 0, v));
        says("STATE: there is a LOOK with it");
        x.look(0, 3, 1, 0);
        due("a look with it", x.tool(3, 0, 4), STATE);
        due("a look with it", x.tool(3, 10, 9), STATE);
        due("none with the other", x.tool(0, 0, 9), 4);
    }

    private static void look() {
        begin("Promise 18");
        says("A LOOK: its number");
        OldBeams x = beams(3);
        for (int i = 0; i < 6; i++) due("look", x.look(2 - i % 3, i % 4, i % 2, i), i);
        due("one that is down is looked at", halfDown().look(1, 0, 0, 0), 0);
        says("UNKNOWN: beam, tool");
        unknownBeams("look", (y, b) -> y.look(b, 0, 0, 0));
        refused("tool", 0, 3, UNKNOWN, t -> oneBeam().look(0, t, 0, 0));
        says("OUTSIDE: outcome (0, 1), year (0 to 500)");
        range("outcome", 0, 1, 0, OUTSIDE, o -> oneBeam().look(0, 0, o, 0));
        years("look", 0, 0, y -> oneBeam().look(0, 0, 0, y));
        says("STATE: that YEAR is ahead of the LOOK ahead");
        due("5 behind 5", x.look(0, 0, 0, 5), 6);
        due("4 behind 5", x.look(0, 0, 0, 4), STATE);
        due("4 behind 5, the first with that tool", x.look(1, 3, 0, 4), STATE);
        due("0 behind 5", x.look(1, 0, 0, 0), STATE);
        due("6 behind 5", x.look(0, 0, 0, 6), 7);
        says("FULL: 60, or 8 at it");
        OldBeams at = beams(2);
        for (int i = 0; i < 8; i++) due("of eight", at.look(0, i % 4, 1, 9), i);
        due("9th at it", at.look(0, 0, 0, 9), FULL);
        due("9th at it, much later", at.look(0, 3, 1, 500), FULL);
        due("the first at another", at.look(1, 0, 0, 9), 8);
        OldBeams all = beams(12);
        for (int i = 0; i < 60; i++) due("of sixty", all.look(i % 12, 0, 0, 9), i);
        for (int b = 0; b < 12; b++) due("61st", all.look(b, 0, 0, 9), FULL);
        due("sixty", all.count(2), 60);
    }

    private static void odds() {
        begin("Promise 19");
        says("UNKNOWN; OUTSIDE");
        unknownBeams("odds", (x, b) -> x.odds(b, 0, 0));
        range("share", 0, 10, 1, OUTSIDE, t -> oneBeam().odds(0, t, 0));
        years("odds", 1, 0, y -> onlyTen(500).odds(0, 0, y));
        due("odds in 499", onlyTen(500).odds(0, 0, 499), 1);
        due("odds in 0 of a look in 0", onlyTen(0).odds(0, 0, 0), 0);
        due("of one that is down", halfDown().odds(1, 0, 0), 1);
    }

    /** A beam that needs 4 tenths, and a look in a year that leaves 10 tenths alone. */
    private static OldBeams onlyTen(int year) {
        OldBeams x = needsFour();
        x.tool(0, 10, 1);
        x.look(0, 0, 1, year);
        return x;
    }

    private static void quarrel() {
        begin("Promise 20");
        says("The first LOOK at a BEAM that QUARRELS, as KNOWN in a YEAR; NONE");
        due("no look", oneBeam().quarrel(0, 500), NONE);
        OldBeams x = onlyTen(5);
        due("one that counts", x.quarrel(0, 500), NONE);
        x.look(0, 0, 0, 6);
        due("8 of 9 at 10 tenths are left", x.quarrel(0, 500), NONE);
        x.look(0, 1, 1, 7);
        x.look(0, 1, 1, 8);
        due("a year ahead", x.quarrel(0, 6), NONE);
        due("that year", x.quarrel(0, 7), 2);
        due("the first of two", x.quarrel(0, 8), 2);
        OldBeams y = beams(2);
        for (int i = 0; i < 7; i++) y.look(0, 0, 0, 0);
        y.look(0, 0, 1, 0);
        y.look(1, 0, 1, 0);
        due("its number of all", y.quarrel(0, 0), 7);
        due("its number of all", y.quarrel(1, 0), 8);
        says("UNKNOWN; OUTSIDE");
        unknownBeams("quarrel", (z, b) -> z.quarrel(b, 0));
        years("quarrel", NONE, 2, year -> x.quarrel(0, year));
        due("of one that is down", halfDown().quarrel(1, 0), NONE);
    }

    private static void share() {
        begin("Promise 21");
        says("The least SHARE that MAY BE (most = false), the greatest one, as KNOWN in a YEAR, less ROT till a later one");
        for (int t = 0; t <= 10; t++) {
            OldBeams x = oneBeam();
            onlyShare(x, 0, t);
            due("the least of one", x.share(0, 0, 500, false), t);
            due("the greatest of one", x.share(0, 500, 500, true), t);
        }
        due("the least of all", oneBeam().share(0, 0, 0, false), 0);
        due("the greatest of all", oneBeam().share(0, 0, 0, true), 10);
        due("a year ahead of the look", onlyTen(5).share(0, 4, 5, false), 0);
        due("that year", onlyTen(5).share(0, 5, 5, false), 10);
        due("of one that is down", halfDown().share(1, 0, 0, true), 10);
        says("UNKNOWN; OUTSIDE: years, or later is less");
        unknownBeams("share", (x, b) -> x.share(b, 0, 0, true));
        for (boolean most : BOTH) {
            refused("year", 0, 500, OUTSIDE, y -> oneBeam().share(0, y, 500, most));
            refused("later", 0, 500, OUTSIDE, y -> oneBeam().share(0, 0, y, most));
            refused("both", 0, 500, OUTSIDE, y -> oneBeam().share(0, y, y, most));
            due("later is less", oneBeam().share(0, 1, 0, most), OUTSIDE);
            due("later is less", oneBeam().share(0, 500, 499, most), OUTSIDE);
            due("later is the same", oneBeam().share(0, 500, 500, most), most ? 10 : 0);
        }
    }

    private static void stands() {
        begin("Promise 22");
        says("Whether THE FRAME, as KNOWN in a YEAR, SURELY STANDS in a later one (maybe = false), MAY STAND: 1, 0");
        due("surely", needsFour().stands(0, 0, false), 0);
        due("maybe", needsFour().stands(0, 0, true), 1);
        due("a year ahead of the look", onlyTen(5).stands(4, 5, false), 0);
        due("that year", onlyTen(5).stands(5, 5, false), 1);
        due("that year, for the last", onlyTen(5).stands(5, 500, false), 1);
        says("OUTSIDE");
        for (boolean maybe : BOTH) {
            refused("year", 0, 500, OUTSIDE, y -> oneBeam().stands(y, 500, maybe));
            refused("later", 0, 500, OUTSIDE, y -> oneBeam().stands(0, y, maybe));
            refused("both", 0, 500, OUTSIDE, y -> oneBeam().stands(y, y, maybe));
            due("later is less", oneBeam().stands(1, 0, maybe), OUTSIDE);
            due("later is less", oneBeam().stands(500, 499, maybe), OUTSIDE);
            due("later is the same", oneBeam().stands(500, 500, maybe), 1);
        }
    }

    private static void until() {
        begin("Promise 23");
        says("HOLD UNTIL, as KNOWN in a YEAR, from it on: the YEAR; NONE");
        due("surely", needsFour().until(0, false), NONE);
        due("maybe", needsFour().until(0, true), 500);
        OldBeams x = onlyTen(5);
        x.wet(0, true);
        due("a year ahead of the look", x.until(4, false), NONE);
        due("6 tenths lost hold, 7 do not", x.until(5, false), 74);
        x.kind(0, 2, 10);
        due("6 years", x.until(5, false), 11);
        due("cut by the last year", x.until(494, false), 500);
        due("not cut", x.until(493, false), 499);
        says("OUTSIDE");
        for (boolean maybe : BOTH) years("until", 500, 500, y -> oneBeam().until(y, maybe));
    }

    private static void chance() {
        begin("Promise 24");
        says("CHANCE, as KNOWN in a YEAR (no ROT)");
        OldBeams x = onlyTen(5);
        x.kind(0, 1, 10);
        fraction("a year ahead of the look", 7, 11, upper -> x.chance(0, 4, upper));
        fraction("that year", 1, 1, upper -> x.chance(0, 5, upper));
        fraction("no rot by the last year", 1, 1, upper -> x.chance(0, 500, upper));
        says("UNKNOWN; OUTSIDE; STATE: it is DOWN");
        for (boolean upper : BOTH) {
            unknownBeams("chance", (y, b) -> y.chance(b, 0, upper));
            years("chance", 1, 1, y -> oneBeam().chance(0, y, upper));
            refusedWhenDown("chance", (y, b) -> y.chance(b, 0, upper));
        }
    }

    private static void weakest() {
        begin("Promise 25");
        says("WEAKEST; NONE: all are DOWN");
        OldBeams x = beams(2);
        due("of like ones", x.weakest(0), 0);
        x.fall(0);
        due("the one that is left", x.weakest(0), 1);
        x.fall(1);
        due("all are down", x.weakest(0), NONE);
        due("no beam", new OldBeams().weakest(0), NONE);
        OldBeams down = beams(2);
        down.seat(1, 1, 10, 0, 0);
        down.fall(0);
        due("one has fallen, the other is down by it", down.weakest(0), NONE);
        OldBeams surely = beams(2);
        surely.load(0, 5, 402);
        surely.load(1, 5, 402);
        due("two of chance 0", surely.weakest(0), 0);
        says("OUTSIDE");
        years("weakest", 0, 0, y -> oneBeam().weakest(y));
    }

    private static void chain() {
        begin("Promise 26");
        says("How many are DOWN behind A FALL of a BEAM, as KNOWN in a YEAR");
        due("one of one", oneBeam().chain(0, 0), 1);
        due("those that were down too", halfDown().chain(5, 0), 5);
        due("one below those that were down", halfDown().chain(0, 0), 5);
        OldBeams x = twoNeedFour();
        due("a year ahead of the look", x.chain(0, 4), 2);
        due("that year", x.chain(0, 5), 1);
        says("UNKNOWN; OUTSIDE; STATE: it is DOWN");
        unknownBeams("chain", (y, b) -> y.chain(b, 0));
        years("chain", 1, 1, y -> oneBeam().chain(0, y));
        refusedWhenDown("chain", (y, b) -> y.chain(b, 0));
    }

    /** Two beams that need 4 tenths; of beam 1 they are known from year 5 on. */
    private static OldBeams twoNeedFour() {
        OldBeams x = beams(2);
        x.load(0, 5, 160);
        x.load(1, 5, 160);
        toolFrom(x, 0, 4, 9, 0);
        x.look(1, 0, 1, 5);
        return x;
    }

    private static void chainAt() {
        begin("Promise 27");
        says("The i-th BEAM that FALLS by itself in it (0: that one; none that is DOWN by others); NONE. As chain()");
        OldBeams x = twoNeedFour();
        due("that one", x.chainAt(1, 0, 0), 1);
        due("the next", x.chainAt(1, 0, 1), 0);
        due("no more", x.chainAt(1, 0, 2), NONE);
        due("a year ahead of the look", x.chainAt(0, 4, 1), 1);
        due("that year", x.chainAt(0, 5, 1), NONE);
        refused("i", 0, 1, NONE, i -> x.chainAt(1, 0, i));
        due("none that is down by it", tower().chainAt(0, 0, 1), NONE);
        OldBeams all = beams(12);
        for (int b = 0; b < 12; b++) all.load(b, 5, 2);
        for (int i = 1; i < 12; i++) due("twelve by themselves", all.chainAt(11, 0, i), i - 1);
        due("no thirteenth", all.chainAt(11, 0, 12), NONE);
        unknownBeams("chainAt", (y, b) -> y.chainAt(b, 0, 0));
        years("chainAt", 0, 0, y -> oneBeam().chainAt(0, y, 0));
        refusedWhenDown("chainAt", (y, b) -> y.chainAt(b, 0, 0));
        due("UNKNOWN ahead of no i-th", x.chainAt(2, 0, -1), UNKNOWN);
        due("OUTSIDE ahead of no i-th", x.chainAt(0, 501, -1), OUTSIDE);
        due("STATE ahead of no i-th", halfDown().chainAt(1, 0, -1), STATE);
    }

    private static void prop() {
        begin("Promise 28");
        says("A PLACE for a prop, not SET: its number");
        OldBeams x = beams(2);
        for (int i = 0; i < 8; i++) due("prop", x.prop(i % 2, 10, 9999), i);
        due("none is set", x.count(4), 0);
        due("none pushes", x.push(0, 1), 0);
        due("at one that is down", halfDown().prop(1, 0, 1), 0);
        says("UNKNOWN: beam");
        unknownBeams("prop", (y, b) -> y.prop(b, 0, 1));
        says("OUTSIDE");
        range("place", 0, 10, 0, OUTSIDE, p -> oneBeam().prop(0, p, 1));
        refused("push", 1, 9999, OUTSIDE, v -> oneBeam().prop(0, 0, v));
        says("FULL: 8");
        due("9th", x.prop(0, 0, 1), FULL);
        due("9th", x.prop(1, 0, 1), FULL);
        due("eight", x.count(3), 8);
    }

    private static void set() {
        begin("Promise 29");
        says("A prop is SET, or not: how it was: 1, 0");
        OldBeams x = oneBeam();
        for (int i = 0; i < 8; i++) x.prop(0, 10, 1 << i);
        long pushed = 0;
        for (int i = 0; i < 8; i++) {
            due("it was not", x.set(i, true), 0);
            due("it was", x.set(i, true), 1);
            pushed += 1 << i;
            due("so many push", x.push(0, 1), -pushed);
        }
        due("it was", x.set(7, false), 1);
        due("it was not", x.set(7, false), 0);
        due("seven push", x.push(0, 1), -127);
        says("UNKNOWN: place");
        refused("of no places", 0, -1, UNKNOWN, p -> oneBeam().set(p, true));
        refused("of eight places", 0, 7, UNKNOWN, p -> x.set(p, true));
        refused("of eight places", 0, 7, UNKNOWN, p -> x.set(p, false));
    }

    private static void fewest() {
        begin("Promise 30");
        says("How many THE FEWEST PROPS are for a YEAR as KNOWN in it; NONE");
        due("no beam", new OldBeams().fewest(0), 0);
        due("no place for a prop, and none is needed", oneBeam().fewest(0), 0);
        due("no place for a prop", needsFour().fewest(0), NONE);
        for (int many = 1; many <= 8; many++) {
            OldBeams x = propped(many);
            due("all " + many, x.fewest(0), many);
            x.load(0, 5, 1);
            due("more than all " + many, x.fewest(0), NONE);
        }
        OldBeams known = onlyTen(5);
        known.prop(0, 5, 160);
        due("a year ahead of the look", known.fewest(4), 1);
        due("that year", known.fewest(5), 0);
        says("OUTSIDE");
        years("fewest", 0, 0, y -> oneBeam().fewest(y));
        says("(Nothing is changed.)");
        OldBeams x = propped(2);
        x.set(1, true);
        x.fewest(0);
        due("one is set", x.count(4), 1);
        due("it is the second", x.set(1, true), 1);
        due("one pushes", x.push(0, 0) + x.push(0, 1), 1);
    }

    /** A load, and so many props that bear it if all are set. */
    private static OldBeams propped(int many) {
        OldBeams x = oneBeam();
        x.load(0, 5, many);
        for (int i = 0; i < many; i++) x.prop(0, 5, 1);
        return x;
    }

    private static void needed() {
        begin("Promise 31");
        says("The i-th of them; NONE");
        for (int many = 0; many <= 8; many++) {
            OldBeams x = many == 0 ? oneBeam() : propped(many);
            for (int i = 0; i < many; i++) due("of " + many, x.needed(0, i), i);
            refused("i", 0, many - 1, NONE, i -> x.needed(0, i));
        }
        due("none would do", needsFour().needed(0, 0), NONE);
        says("OUTSIDE: year");
        years("needed", 0, 0, y -> propped(1).needed(y, 0));
        due("year and i", oneBeam().needed(501, -1), OUTSIDE);
    }

    private static void price() {
        begin("Promise 32");
        says("MEND (what = 0), LOSS (1): what it was");
        OldBeams x = new OldBeams();
        due("mend", x.price(0, 9999), 100);
        due("loss", x.price(1, 0), 1000);
        due("mend", x.price(0, 0), 9999);
        due("loss", x.price(1, 9999), 0);
        due("mend", x.price(0, 0), 0);
        due("loss", x.price(1, 9999), 9999);
        says("OUTSIDE");
        refused("what", 0, 1, OUTSIDE, what -> new OldBeams().price(what, 0));
        refused("mend", 0, 9999, OUTSIDE, v -> new OldBeams().price(0, v));
        refused("loss", 0, 9999, OUTSIDE, v -> new OldBeams().price(1, v));
    }

    private static void mean() {
        begin("Promise 33");
        says("THE MEAN COST at a BEAM, as KNOWN in a YEAR");
        OldBeams x = onlyTen(5);
        x.price(0, 1000);
        fraction("a year ahead of the look", 4000, 11, upper -> x.mean(0, 4, upper));
        fraction("that year", 0, 1, upper -> x.mean(0, 5, upper));
        says("UNKNOWN; OUTSIDE; STATE: it is DOWN");
        for (boolean upper : BOTH) {
            unknownBeams("mean", (y, b) -> y.mean(b, 0, upper));
            years("mean", upper ? 0 : 1, upper ? 0 : 1, y -> oneBeam().mean(0, y, upper));
            refusedWhenDown("mean", (y, b) -> y.mean(b, 0, upper));
        }
    }

    private static void worth() {
        begin("Promise 34");
        says("THE WORTH of a TOOL at a BEAM, as KNOWN in a YEAR");
        OldBeams x = onlyTen(5);
        toolFrom(x, 3, 4, 9, 0);
        fraction("a year ahead of the look", 700, 11, upper -> x.worth(0, 3, 4, upper));
        fraction("that year", 0, 1, upper -> x.worth(0, 3, 5, upper));
        says("UNKNOWN: beam, tool; OUTSIDE; STATE: it is DOWN");
        for (boolean upper : BOTH) {
            unknownBeams("worth", (y, b) -> y.worth(b, 0, 0, upper));
            refused("tool", 0, 3, UNKNOWN, t -> oneBeam().worth(0, t, 0, upper));
            refused("tool of one that is down", 0, 3, UNKNOWN, t -> halfDown().worth(1, t, 501, upper));
            years("worth", upper ? 0 : 1, upper ? 0 : 1, y -> oneBeam().worth(0, 3, y, upper));
            refusedWhenDown("worth", (y, b) -> y.worth(b, 3, 0, upper));
        }
    }

    private static void bestLook() {
        begin("Promise 35");
        says("THE BEST LOOK, as KNOWN in a YEAR: 10 times the BEAM, and the TOOL; NONE");
        for (int b : new int[] {0, 1, 11}) {
            for (int tool = 0; tool <= 3; tool++) {
                OldBeams x = beams(12);
                x.load(b, 5, 160);
                toolFrom(x, tool, 4, 9, 0);
                due("the only one", x.bestLook(0), 10 * b + tool);
                x.look(b, tool, 1, 5);
                due("a year ahead of the look", x.bestLook(4), 10 * b + tool);
                due("that year", x.bestLook(5), NONE);
            }
        }
        due("no beam", new OldBeams().bestLook(0), NONE);
        says("OUTSIDE");
        years("bestLook", NONE, NONE, y -> oneBeam().bestLook(y));
    }

    private static void count() {
        begin("Promise 36");
        says("0 BEAMS, 1 LOADS that are on, 2 LOOKS, 3 PLACES for props, 4 props that are SET, 5 BEAMS that are DOWN");
        OldBeams x = beams(12);
        for (int i = 1; i < 12; i++) x.seat(i, 0, 0, i - 1, 0);
        for (int i = 0; i < 40; i++) x.load(0, 0, 1);
        for (int i = 0; i < 60; i++) x.look(i % 12, 0, 0, 0);
        for (int i = 0; i < 8; i++) x.prop(0, 0, 1);
        for (int i = 0; i < 8; i++) x.set(i, true);
        long[] full = {12, 40, 60, 8, 8, 0};
        for (int what = 0; what <= 5; what++) due("count(" + what + ")", x.count(what), full[what]);
        for (int i = 0; i < 40; i++) x.takeOff(i);
        for (int i = 0; i < 8; i++) x.set(i, false);
        x.fall(0);
        long[] then = {12, 0, 60, 8, 0, 12};
        for (int what = 0; what <= 5; what++) due("count(" + what + ")", x.count(what), then[what]);
        says("OUTSIDE");
        refused("what", 0, 5, OUTSIDE, what -> oneBeam().count(what));
    }
}
