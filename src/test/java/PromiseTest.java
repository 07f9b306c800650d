/** For each promise of the document: ordinary inputs, the edges that it names, and wrong inputs; answers reckoned by hand. */
public final class PromiseTest extends Checks {
    public static void main(String[] args) {
        newObject();
        kind();
        beam();
        seat();
        seatRefusals();
        about();
        wet();
        load();
        takeOff();
        fall();
        push();
        bending();
        greatest();
        lifts();
        holds();
        needs();
        weight();
        tool();
        look();
        lookRefusals();
        odds();
        quarrel();
        share();
        stands();
        until();
        chance();
        weakest();
        chain();
        chainAt();
        prop();
        set();
        fewest();
        needed();
        price();
        mean();
        worth();
        bestLook();
        count();
        fullObject();
        wildNumbers();
        end("all answers are as due");
    }

    private static void newObject() {
        begin("1 new object");
        OldBeams x = new OldBeams();
        for (int what = 0; what <= 5; what++) due("count(" + what + ")", x.count(what), 0);
        due("about", x.about(0, 0), UNKNOWN);
        due("stands", x.stands(0, 500, false), 1);
        due("until", x.until(0, false), 500);
        due("until 500", x.until(500, true), 500);
        due("weakest", x.weakest(0), NONE);
        due("fewest", x.fewest(0), 0);
        due("needed", x.needed(0, 0), NONE);
        due("bestLook", x.bestLook(0), NONE);
        for (int k = 0; k < 4; k++) {
            due("grade", x.kind(k, 0, 100), 100);
            due("rot dry", x.kind(k, 1, 0), 0);
            due("rot wet", x.kind(k, 2, 1), 1);
            for (int t = 0; t <= 10; t++) due("tool", x.tool(k, t, 0), 0);
        }
        due("mend", x.price(0, 0), 100);
        due("loss", x.price(1, 0), 1000);
    }

    private static void kind() {
        begin("2 kind");
        OldBeams x = oneBeam();
        x.beam(1, 10, 10, 10, 0);
        due("grade 999", x.kind(0, 0, 999), 100);
        due("whole", x.about(0, 5), 9990);
        due("whole of another kind", x.about(1, 5), 1000);
        due("grade 1", x.kind(0, 0, 1), 999);
        due("whole", x.about(0, 5), 10);
        due("rot 10", x.kind(0, 1, 10), 0);
        due("rot 0", x.kind(0, 1, 0), 10);
        due("rot wet 10", x.kind(0, 2, 10), 1);
        due("rot wet 0", x.kind(0, 2, 0), 10);
        due("kind 3", x.kind(3, 0, 7), 100);
        due("kind -1", x.kind(-1, 0, 7), UNKNOWN);
        due("kind 4, all wrong", x.kind(4, 9, -5), UNKNOWN);
        due("what -1", x.kind(0, -1, 1), OUTSIDE);
        due("what 3", x.kind(0, 3, 1), OUTSIDE);
        due("grade 0", x.kind(0, 0, 0), OUTSIDE);
        due("grade 1000", x.kind(0, 0, 1000), OUTSIDE);
        due("rot -1", x.kind(0, 1, -1), OUTSIDE);
        due("rot 11", x.kind(0, 1, 11), OUTSIDE);
        due("rot wet -1", x.kind(0, 2, -1), OUTSIDE);
        due("rot wet 11", x.kind(0, 2, 11), OUTSIDE);
        due("grade is kept", x.kind(0, 0, 50), 1);
        due("rot is kept", x.kind(0, 1, 5), 0);
        due("rot wet is kept", x.kind(0, 2, 5), 0);
    }

    private static void beam() {
        begin("3 beam");
        OldBeams x = new OldBeams();
        due("first", x.beam(0, 2, 1, 1, 0), 0);
        due("second", x.beam(3, 60, 40, 40, 500), 1);
        due("seat 0", x.about(1, 1), 0);
        due("seat 1", x.about(1, 2), 60);
        due("on post", x.about(1, 3), NONE);
        due("on post", x.about(1, 4), NONE);
        due("dry", x.about(1, 6), 0);
        due("up", x.about(1, 7), 0);
        due("kind -1", x.beam(-1, 2, 1, 1, 0), UNKNOWN);
        due("kind 4, all wrong", x.beam(4, 1, 0, 0, -1), UNKNOWN);
        due("length 1", x.beam(0, 1, 1, 1, 0), OUTSIDE);
        due("length 61", x.beam(0, 61, 1, 1, 0), OUTSIDE);
        due("width 0", x.beam(0, 2, 0, 1, 0), OUTSIDE);
        due("width 41", x.beam(0, 2, 41, 1, 0), OUTSIDE);
        due("height 0", x.beam(0, 2, 1, 0, 0), OUTSIDE);
        due("height 41", x.beam(0, 2, 1, 41, 0), OUTSIDE);
        due("year -1", x.beam(0, 2, 1, 1, -1), OUTSIDE);
        due("year 501", x.beam(0, 2, 1, 1, 501), OUTSIDE);
        due("none came by these", x.count(0), 2);
        for (int i = 2; i < 12; i++) due("beam " + i, x.beam(0, 2, 1, 1, 0), i);
        due("13th", x.beam(0, 2, 1, 1, 0), FULL);
        due("13th, outside", x.beam(0, 1, 1, 1, 0), OUTSIDE);
        due("13th, unknown", x.beam(4, 2, 1, 1, 0), UNKNOWN);
        due("12 of them", x.count(0), 12);
    }

    private static void seat() {
        begin("4 seat");
        OldBeams x = tower();
        due("seat 1 nearer", x.seat(0, 1, 4, NONE, -77), 10);
        due("too near", x.seat(0, 1, 3, NONE, 0), STATE);
        due("seat 0 too near", x.seat(0, 0, 1, NONE, 0), STATE);
        due("seat 0 behind", x.seat(0, 0, 10, NONE, 0), STATE);
        due("still there", x.about(0, 2), 4);
        due("seat 1 back", x.seat(0, 1, 10, NONE, 0), 4);
        due("seat 0 in", x.seat(0, 0, 6, NONE, 0), 0);
        due("where it is", x.about(0, 1), 6);
        due("on beam 0", x.seat(3, 1, 10, 0, 10), 10);
        due("on what", x.about(3, 4), 0);
        due("on beam 2", x.seat(3, 0, 2, 2, 0), 0);
        due("on what", x.about(3, 3), 2);
        due("on a post again", x.seat(3, 0, 3, NONE, Integer.MAX_VALUE), 2);
        due("on what", x.about(3, 3), NONE);
        OldBeams y = new OldBeams();
        y.beam(0, 60, 1, 1, 0);
        due("a third is enough", y.seat(0, 1, 20, NONE, 0), 60);
        due("less is not", y.seat(0, 1, 19, NONE, 0), STATE);
        y.beam(0, 59, 1, 1, 0);
        due("20 of 59", y.seat(1, 1, 20, NONE, 0), 59);
        due("19 of 59", y.seat(1, 1, 19, NONE, 0), STATE);
    }

    private static void seatRefusals() {
        begin("4 seat, refusals");
        OldBeams x = tower();
        due("no beam", x.seat(4, 2, 99, 9, 99), UNKNOWN);
        due("beam -1", x.seat(-1, 0, 0, NONE, 0), UNKNOWN);
        due("seat -1", x.seat(1, -1, 0, NONE, 0), OUTSIDE);
        due("seat 2 ahead of on", x.seat(1, 2, 0, 1, 0), OUTSIDE);
        due("place -1", x.seat(1, 0, -1, NONE, 0), OUTSIDE);
        due("place 11 ahead of on", x.seat(1, 0, 11, 1, 0), OUTSIDE);
        due("on itself", x.seat(1, 0, 0, 1, 0), STATE);
        due("on a greater one", x.seat(1, 0, 0, 2, 0), STATE);
        due("on no beam", x.seat(1, 0, 0, 4, 0), STATE);
        due("on -1, ahead of where", x.seat(1, 0, 0, -1, 99), STATE);
        due("on nearly NONE", x.seat(1, 0, 0, -900008, 0), STATE);
        due("where -1", x.seat(1, 0, 0, 0, -1), OUTSIDE);
        due("where 11, ahead of apart", x.seat(1, 0, 10, 0, 11), OUTSIDE);
        due("apart", x.seat(1, 0, 10, 0, 10), STATE);
        due("place is kept", x.about(1, 1), 0);
        due("on is kept", x.about(1, 3), 0);
    }

    private static void about() {
        begin("5 about");
        OldBeams x = tower();
        x.kind(2, 0, 77);
        x.beam(2, 30, 7, 9, 3);
        x.seat(4, 0, 5, 1, 2);
        x.seat(4, 1, 25, 3, 2);
        x.wet(4, true);
        long[] due = {30, 5, 25, 1, 3, 77L * 7 * 81 / 100, 1, 0};
        for (int what = 0; what <= 7; what++) due("about(4, " + what + ")", x.about(4, what), due[what]);
        x.fall(0);
        due("down by 1, which is down by 0", x.about(4, 7), 1);
        due("3 is up", x.about(3, 7), 0);
        due("what -1", x.about(0, -1), OUTSIDE);
        due("what 8", x.about(0, 8), OUTSIDE);
        due("no beam", x.about(5, 8), UNKNOWN);
        due("beam -1", x.about(-1, 0), UNKNOWN);
        OldBeams y = new OldBeams();
        y.kind(0, 0, 999);
        y.beam(0, 2, 40, 40, 0);
        due("greatest strength", y.about(0, 5), 639360);
        y.kind(0, 0, 1);
        y.beam(0, 2, 11, 3, 0);
        due("cut to 0", y.about(1, 5), 0);
    }

    private static void wet() {
        begin("6 wet");
        OldBeams x = oneBeam();
        due("was dry", x.wet(0, true), 0);
        due("was wet", x.wet(0, true), 1);
        due("was wet", x.wet(0, false), 1);
        due("was dry", x.wet(0, false), 0);
        due("no beam", x.wet(1, true), UNKNOWN);
        due("beam -1", x.wet(-1, true), UNKNOWN);
    }

    private static void load() {
        begin("7 load");
        OldBeams x = oneBeam();
        due("first", x.load(0, 0, 1), 0);
        due("second", x.load(0, 10, 9999), 1);
        due("no beam", x.load(1, 99, 0), UNKNOWN);
        due("beam -1", x.load(-1, 0, 1), UNKNOWN);
        due("place -1", x.load(0, -1, 1), OUTSIDE);
        due("place 11", x.load(0, 11, 1), OUTSIDE);
        due("weight 0", x.load(0, 0, 0), OUTSIDE);
        due("weight 10000", x.load(0, 0, 10000), OUTSIDE);
        due("push", x.push(0, 1), 9999);
        for (int i = 2; i < 40; i++) due("load " + i, x.load(0, 5, 1), i);
        due("41st", x.load(0, 5, 1), FULL);
        due("41st, outside", x.load(0, 5, 0), OUTSIDE);
        x.takeOff(3);
        due("one that is off still counts", x.load(0, 5, 1), FULL);
        due("on", x.count(1), 39);
        x.fall(0);
        OldBeams y = oneBeam();
        y.fall(0);
        due("on a beam that is down", y.load(0, 5, 1), 0);
    }

    private static void takeOff() {
        begin("8 takeOff");
        OldBeams x = oneBeam();
        x.load(0, 5, 60);
        x.load(0, 5, 40);
        due("off", x.takeOff(0), 60);
        due("pushes no more", x.push(0, 0), 20);
        due("again", x.takeOff(0), STATE);
        due("no load", x.takeOff(2), UNKNOWN);
        due("load -1", x.takeOff(-1), UNKNOWN);
        due("the other", x.takeOff(1), 40);
        due("none pushes", x.push(0, 0), 0);
        due("next number", x.load(0, 0, 1), 2);
    }

    private static void fall() {
        begin("9 fall");
        OldBeams x = tower();
        due("the third", x.fall(2), 1);
        due("again", x.fall(2), STATE);
        due("the first: 0, 1, 2", x.fall(0), 3);
        due("one that is down by another", x.fall(1), 3);
        due("again", x.fall(1), STATE);
        due("the last", x.fall(3), 4);
        due("no beam", x.fall(4), UNKNOWN);
        due("beam -1", x.fall(-1), UNKNOWN);
        OldBeams y = tower();
        due("beam 1 takes 2", y.fall(1), 2);
        due("a seat is moved away", y.seat(2, 1, 10, NONE, 0), 10);
        due("2 is up again", y.count(5), 1);
    }

    private static void push() {
        begin("10 push");
        OldBeams x = tower();
        x.load(2, 7, 100);
        x.load(1, 5, 11);
        due("2, 1", x.push(2, 1), 70);
        due("2, 0", x.push(2, 0), 30);
        due("1, 1: 81 * 5 by 10, cut", x.push(1, 1), 40);
        due("1, 0", x.push(1, 0), 41);
        due("0, 1: 41 * 5 by 10, cut", x.push(0, 1), 20);
        due("0, 0", x.push(0, 0), 21);
        due("3", x.push(3, 0), 0);
        due("seat -1", x.push(0, -1), OUTSIDE);
        due("seat 2", x.push(0, 2), OUTSIDE);
        due("no beam", x.push(4, 2), UNKNOWN);
        x.fall(2);
        due("1 without 2", x.push(1, 1), 5);
        due("down", x.push(2, 0), STATE);
        due("down, seat 2", x.push(2, 2), OUTSIDE);
        OldBeams y = oneBeam();
        y.seat(0, 0, 3, NONE, 0);
        y.seat(0, 1, 7, NONE, 0);
        y.load(0, 2, 1);
        due("cut down below 0", y.push(0, 1), -1);
        due("the other", y.push(0, 0), 2);
        y.prop(0, 5, 9);
        due("not set yet", y.push(0, 1), -1);
        y.set(0, true);
        due("(-1 - 18) by 4", y.push(0, 1), -5);
        due("-8 less -5", y.push(0, 0), -3);
        OldBeams z = new OldBeams();
        z.beam(0, 3, 1, 1, 0);
        z.seat(0, 0, 1, NONE, 0);
        z.seat(0, 1, 2, NONE, 0);
        z.load(0, 3, 7);
        due("one apart", z.push(0, 1), 14);
        due("one apart", z.push(0, 0), -7);
    }

    private static void bending() {
        begin("11 bending");
        OldBeams x = oneBeam();
        x.seat(0, 0, 2, NONE, 0);
        x.seat(0, 1, 8, NONE, 0);
        x.load(0, 0, 30);
        x.load(0, 5, 60);
        // Pushes: seat 1 (30 * -2 + 60 * 3) by 6 = 20, seat 0 70.
        long[] due = {0, 30, 60, 20, -20, -60, -40, -20, 0, 0, 0};
        for (int p = 0; p <= 10; p++) due("at " + p, x.bending(0, p), due[p]);
        due("place -1", x.bending(0, -1), OUTSIDE);
        due("place 11", x.bending(0, 11), OUTSIDE);
        due("no beam", x.bending(1, 99), UNKNOWN);
        x.fall(0);
        due("down", x.bending(0, 5), STATE);
        due("down, outside", x.bending(0, 11), OUTSIDE);
        OldBeams y = tower();
        y.load(1, 5, 20);
        due("by the seat of another", y.bending(0, 5), -25);
        due("behind it", y.bending(0, 7), -15);
        y.prop(0, 6, 10);
        y.set(0, true);
        // Seat 1 of 0: (50 - 60) by 10 = -1, seat 0 1; at 7: 10 * 2 - 10 * 1 - 1 * 7.
        due("with a prop", y.bending(0, 7), 3);
    }

    private static void greatest() {
        begin("12 greatest");
        OldBeams x = oneBeam();
        due("nothing", x.greatest(0, false), 0);
        due("nothing, place", x.greatest(0, true), 0);
        x.seat(0, 0, 2, NONE, 0);
        x.seat(0, 1, 8, NONE, 0);
        x.load(0, 0, 30);
        x.load(0, 5, 60);
        due("60 above and below", x.greatest(0, false), 60);
        due("first", x.greatest(0, true), 2);
        x.load(0, 5, 2);
        due("the greater one is below 0", x.greatest(0, false), 63);
        due("place", x.greatest(0, true), 5);
        due("no beam", x.greatest(1, true), UNKNOWN);
        due("beam -1", x.greatest(-1, false), UNKNOWN);
        x.fall(0);
        due("down", x.greatest(0, false), STATE);
        due("down", x.greatest(0, true), STATE);
        OldBeams y = new OldBeams();
        y.beam(0, 60, 1, 1, 0);
        y.seat(0, 0, 1, NONE, 0);
        y.seat(0, 1, 59, NONE, 0);
        y.load(0, 30, 1);
        // (29 by 58, cut) is 0, so seat 0 bears all: at 30 -29, and so on to the end.
        due("cut leaves a rest", y.greatest(0, false), 29);
        due("first of many", y.greatest(0, true), 30);
        due("at the end", y.bending(0, 60), -29);
        OldBeams z = oneBeam();
        z.load(0, 9, 9);
        // Seat 1 bears 8 of 8.1, seat 0 1: at 9 -9, at 10 -1.
        due("at 9", z.greatest(0, false), 9);
        due("at 9", z.greatest(0, true), 9);
        OldBeams e = oneBeam();
        e.load(0, 10, 5);
        e.prop(0, 5, 1);
        e.set(0, true);
        // Seat 1: (50 - 5) by 10 is 4, seat 0 0: the prop alone bends, to the very end.
        due("at the end", e.greatest(0, false), 5);
        due("at the end", e.greatest(0, true), 10);
    }

    private static void lifts() {
        begin("13 lifts");
        OldBeams x = oneBeam();
        due("nothing", x.lifts(0), 0);
        x.seat(0, 0, 4, NONE, 0);
        x.load(0, 0, 6);
        due("seat 1 below 0", x.lifts(0), 1);
        x.load(0, 10, 3);
        due("no more: (6 * -4 + 3 * 6) by 6 is -1", x.lifts(0), 1);
        x.load(0, 10, 1);
        due("0 is not below 0", x.lifts(0), 0);
        x.seat(0, 0, 0, NONE, 0);
        x.seat(0, 1, 5, NONE, 0);
        due("seat 0: 6 of 10 less 8", x.lifts(0), 0);
        x.load(0, 10, 3);
        due("seat 0: 13 less 14", x.lifts(0), 1);
        due("no beam", x.lifts(1), UNKNOWN);
        x.fall(0);
        due("down", x.lifts(0), STATE);
    }

    private static void holds() {
        begin("14 holds");
        OldBeams x = oneBeam();
        x.load(0, 5, 160);
        due("3 tenths: 300 against 400", x.holds(0, 3), 0);
        due("4 tenths: 400", x.holds(0, 4), 1);
        x.load(0, 5, 2);
        due("405 against 400", x.holds(0, 4), 0);
        due("10 tenths", x.holds(0, 10), 1);
        due("0 tenths", x.holds(0, 0), 0);
        due("share -1", x.holds(0, -1), OUTSIDE);
        due("share 11", x.holds(0, 11), OUTSIDE);
        due("no beam", x.holds(1, 11), UNKNOWN);
        x.seat(0, 0, 6, NONE, 0);
        due("it lifts", x.holds(0, 10), 0);
        x.fall(0);
        due("down", x.holds(0, 0), STATE);
        due("down, outside", x.holds(0, 11), OUTSIDE);
        OldBeams y = new OldBeams();
        y.kind(0, 0, 19);
        y.beam(0, 10, 10, 3, 0);
        // 19 * 10 * 9 by 100 is 17; with 7 tenths it bears 11 of 11.9.
        y.load(0, 0, 1);
        y.load(0, 1, 12);
        due("whole", y.about(0, 5), 17);
        due("11", y.greatest(0, false), 11);
        due("7 tenths", y.holds(0, 7), 1);
        due("6 tenths", y.holds(0, 6), 0);
        y.load(0, 1, 1);
        due("12", y.greatest(0, false), 12);
        due("7 tenths, cut", y.holds(0, 7), 0);
    }

    private static void needs() {
        begin("15 needs");
        OldBeams x = oneBeam();
        due("nothing", x.needs(0), 0);
        x.load(0, 5, 160);
        due("400", x.needs(0), 4);
        x.load(0, 5, 240);
        due("1000", x.needs(0), 10);
        x.load(0, 5, 2);
        due("1005", x.needs(0), NONE);
        due("no beam", x.needs(1), UNKNOWN);
        x.fall(0);
        due("down", x.needs(0), STATE);
    }

    private static void weight() {
        begin("16 weight");
        OldBeams x = tower();
        due("at first", x.weight(0, 0, 99), 1);
        due("then", x.weight(0, 0, 0), 99);
        due("odds", x.odds(0, 0, 0), 0);
        due("no beam", x.weight(4, 11, 100), UNKNOWN);
        due("share -1", x.weight(0, -1, 1), OUTSIDE);
        due("share 11", x.weight(0, 11, 1), OUTSIDE);
        due("v -1", x.weight(0, 0, -1), OUTSIDE);
        due("v 100", x.weight(0, 0, 100), OUTSIDE);
        for (int t = 1; t < 10; t++) due("share " + t, x.weight(0, t, 0), 1);
        due("all would be 0", x.weight(0, 10, 0), STATE);
        due("it is kept", x.odds(0, 10, 0), 1);
        due("another", x.weight(0, 3, 7), 0);
        due("now it may", x.weight(0, 10, 0), 1);
        due("and again not", x.weight(0, 3, 0), STATE);
        for (int t = 1; t <= 10; t++) due("all but 0 tenths", x.weight(2, t, 0), 1);
        due("all would be 0", x.weight(2, 0, 0), STATE);
        x.look(1, 0, 0, 0);
        due("a look at it", x.weight(1, 0, 1), STATE);
        due("a look at it, outside", x.weight(1, 11, 1), OUTSIDE);
        due("another beam", x.weight(3, 0, 5), 1);
    }

    private static void tool() {
        begin("17 tool");
        OldBeams x = oneBeam();
        due("at first", x.tool(3, 10, 9), 0);
        due("then", x.tool(3, 10, 0), 9);
        due("tool -1", x.tool(-1, 0, 0), UNKNOWN);
        due("tool 4, all wrong", x.tool(4, 11, 10), UNKNOWN);
        due("share -1", x.tool(0, -1, 0), OUTSIDE);
        due("share 11", x.tool(0, 11, 0), OUTSIDE);
        due("v -1", x.tool(0, 0, -1), OUTSIDE);
        due("v 10", x.tool(0, 0, 10), OUTSIDE);
        x.look(0, 1, 1, 0);
        due("it quarrels", x.quarrel(0, 0), 0);
        due("a look with it, though it is left out", x.tool(1, 0, 1), STATE);
        due("a look with it, outside", x.tool(1, 0, 10), OUTSIDE);
        due("another", x.tool(2, 0, 1), 0);
    }

    private static void look() {
        begin("18 look");
        OldBeams x = tower();
        for (int i = 0; i < 8; i++) due("look " + i, x.look(0, 0, 0, 7), i);
        due("9th at it", x.look(0, 0, 0, 7), FULL);
        due("9th at it, earlier", x.look(0, 0, 0, 6), STATE);
        due("at another", x.look(1, 0, 0, 7), 8);
        due("at another, earlier", x.look(2, 0, 0, 6), STATE);
        due("the last year", x.look(2, 0, 0, 500), 9);
        due("one less", x.look(2, 0, 0, 499), STATE);
        OldBeams y = new OldBeams();
        for (int i = 0; i < 12; i++) y.beam(0, 2, 1, 1, 0);
        for (int i = 0; i < 60; i++) due("look " + i, y.look(i % 12, i % 4, 0, 0), i);
        due("61st", y.look(0, 0, 0, 0), FULL);
        due("60 of them", y.count(2), 60);
    }

    private static void lookRefusals() {
        begin("18 look, refusals");
        OldBeams x = oneBeam();
        x.look(0, 0, 0, 5);
        due("no beam", x.look(1, 0, 2, 501), UNKNOWN);
        due("beam -1", x.look(-1, 0, 0, 5), UNKNOWN);
        due("tool 4", x.look(0, 4, 2, 501), UNKNOWN);
        due("tool -1", x.look(0, -1, 0, 5), UNKNOWN);
        due("outcome -1", x.look(0, 0, -1, 5), OUTSIDE);
        due("outcome 2, earlier", x.look(0, 0, 2, 4), OUTSIDE);
        due("year -1", x.look(0, 0, 0, -1), OUTSIDE);
        due("year 501", x.look(0, 0, 0, 501), OUTSIDE);
        due("earlier", x.look(0, 0, 0, 4), STATE);
        due("one of them", x.count(2), 1);
        x.fall(0);
        due("at one that is down", x.look(0, 0, 0, 5), 1);
    }

    private static void odds() {
        begin("19 odds");
        OldBeams x = oneBeam();
        for (int t = 0; t <= 10; t++) x.weight(0, t, 6);
        x.weight(0, 10, 12);
        due("weights, undivided", x.odds(0, 3, 0), 6);
        x.tool(0, 3, 3);
        x.tool(0, 10, 6);
        x.tool(1, 3, 9);
        x.look(0, 0, 1, 10);
        due("the year ahead", x.odds(0, 10, 9), 12);
        // 18 at 3 and 72 at 10: 1 and 4.
        due("3", x.odds(0, 3, 10), 1);
        due("10", x.odds(0, 10, 10), 4);
        due("0", x.odds(0, 0, 10), 0);
        x.look(0, 0, 0, 20);
        // 6 and 12, by 6.
        due("3", x.odds(0, 3, 20), 1);
        due("10", x.odds(0, 10, 20), 2);
        due("10, year ahead", x.odds(0, 10, 19), 4);
        x.look(0, 1, 0, 20);
        due("3 is out", x.odds(0, 3, 20), 0);
        due("10 alone", x.odds(0, 10, 500), 1);
        due("no beam", x.odds(1, 11, 501), UNKNOWN);
        due("share -1", x.odds(0, -1, 0), OUTSIDE);
        due("share 11", x.odds(0, 11, 0), OUTSIDE);
        due("year -1", x.odds(0, 0, -1), OUTSIDE);
        due("year 501", x.odds(0, 0, 501), OUTSIDE);
        OldBeams y = oneBeam();
        y.weight(0, 0, 98);
        y.weight(0, 10, 99);
        for (int t = 0; t < 10; t++) y.tool(0, t, 8);
        y.tool(0, 10, 9);
        for (int i = 0; i < 8; i++) y.look(0, 0, 1, 0);
        // 99 * 9^8 and 98 * 8^8 and 8^8 have nothing in common.
        due("great odds", y.odds(0, 10, 0), 99L * 43046721L);
        due("great odds", y.odds(0, 0, 0), 98L * 16777216L);
        due("down makes no difference", y.fall(0), 1);
        due("great odds", y.odds(0, 1, 0), 16777216L);
    }

    private static void quarrel() {
        begin("20 quarrel");
        OldBeams x = tower();
        x.tool(0, 10, 9);
        for (int t = 0; t <= 10; t++) x.weight(1, t, 4);
        due("none", x.quarrel(1, 500), NONE);
        x.look(0, 0, 1, 3);
        x.look(1, 1, 1, 3);
        due("the second of all", x.quarrel(1, 3), 1);
        due("not known yet", x.quarrel(1, 2), NONE);
        due("the other beam has none", x.quarrel(0, 3), NONE);
        due("what is left out does not divide", x.odds(1, 0, 3), 4);
        x.look(1, 0, 1, 4);
        due("10 alone", x.odds(1, 10, 4), 1);
        x.look(1, 0, 0, 5);
        due("the first of two", x.quarrel(1, 5), 1);
        due("10 alone", x.odds(1, 10, 5), 1);
        due("no beam", x.quarrel(4, 501), UNKNOWN);
        due("year -1", x.quarrel(0, -1), OUTSIDE);
        due("year 501", x.quarrel(0, 501), OUTSIDE);
    }

    private static void share() {
        begin("21 share");
        OldBeams x = oneBeam();
        due("least", x.share(0, 0, 0, false), 0);
        due("greatest", x.share(0, 0, 0, true), 10);
        x.weight(0, 0, 0);
        x.weight(0, 1, 0);
        x.weight(0, 10, 0);
        due("least", x.share(0, 0, 500, false), 2);
        due("greatest", x.share(0, 0, 500, true), 9);
        x.wet(0, true);
        due("9 years of 1", x.share(0, 0, 9, true), 9);
        due("10 years of 1", x.share(0, 0, 10, true), 8);
        due("from the year as known in", x.share(0, 5, 14, true), 9);
        due("0 at least", x.share(0, 0, 30, false), 0);
        x.kind(0, 2, 7);
        due("3 years of 7: 2", x.share(0, 100, 103, true), 7);
        x.wet(0, false);
        x.kind(0, 1, 3);
        due("7 years of 3: 2", x.share(0, 493, 500, true), 7);
        x.tool(0, 5, 9);
        x.look(0, 0, 1, 50);
        due("known", x.share(0, 50, 50, false), 5);
        due("known", x.share(0, 50, 50, true), 5);
        due("as known before", x.share(0, 49, 50, true), 9);
        due("no beam", x.share(1, 501, 0, true), UNKNOWN);
        due("year -1", x.share(0, -1, 0, true), OUTSIDE);
        due("later 501", x.share(0, 0, 501, true), OUTSIDE);
        due("later is less", x.share(0, 1, 0, true), OUTSIDE);
        due("year 501", x.share(0, 501, 501, true), OUTSIDE);
    }

    private static void stands() {
        begin("22 stands");
        OldBeams x = tower();
        due("nothing on it", x.stands(0, 0, false), 1);
        x.load(3, 5, 160);
        due("least", x.stands(0, 0, false), 0);
        due("greatest", x.stands(0, 0, true), 1);
        onlyShare(x, 3, 5);
        due("5 is enough", x.stands(0, 500, false), 1);
        x.wet(3, true);
        due("4 too", x.stands(0, 19, false), 1);
        due("3 is not", x.stands(0, 20, false), 0);
        due("3 is not", x.stands(0, 20, true), 0);
        due("as known later", x.stands(1, 20, true), 1);
        due("year -1", x.stands(-1, 0, true), OUTSIDE);
        due("later 501", x.stands(0, 501, true), OUTSIDE);
        due("later is less", x.stands(5, 4, true), OUTSIDE);
        x.fall(2);
        due("one is down", x.stands(0, 0, true), 0);
        due("one is down", x.stands(0, 0, false), 0);
        OldBeams y = oneBeam();
        y.seat(0, 0, 6, NONE, 0);
        y.load(0, 0, 1);
        due("it lifts", y.stands(0, 0, true), 0);
    }

    private static void until() {
        begin("23 until");
        OldBeams x = oneBeam();
        x.load(0, 5, 160);
        due("not even in that", x.until(0, false), NONE);
        due("no rot", x.until(0, true), 500);
        x.wet(0, true);
        due("10 less 6", x.until(0, true), 69);
        due("from 100 on", x.until(100, true), 169);
        due("to 500 at most", x.until(450, true), 500);
        due("the last year", x.until(500, true), 500);
        x.weight(0, 0, 0);
        for (int t = 1; t < 6; t++) x.weight(0, t, 0);
        due("6 less 2", x.until(0, false), 29);
        x.kind(0, 2, 10);
        due("6 less 2", x.until(0, false), 2);
        due("year -1", x.until(-1, true), OUTSIDE);
        due("year 501", x.until(501, true), OUTSIDE);
        x.fall(0);
        due("down", x.until(0, true), NONE);
    }

    private static void chance() {
        begin("24 chance");
        OldBeams x = oneBeam();
        due("surely", x.chance(0, 0, true), 1);
        due("surely", x.chance(0, 0, false), 1);
        x.load(0, 5, 160);
        due("7 of 11", x.chance(0, 0, true), 7);
        due("7 of 11", x.chance(0, 0, false), 11);
        x.weight(0, 0, 4);
        due("7 of 14", x.chance(0, 0, true), 1);
        due("7 of 14", x.chance(0, 0, false), 2);
        x.kind(0, 1, 10);
        due("no rot", x.chance(0, 500, false), 2);
        x.tool(0, 3, 9);
        x.look(0, 0, 1, 8);
        due("3 alone", x.chance(0, 8, true), 0);
        due("3 alone", x.chance(0, 8, false), 1);
        due("ahead of it", x.chance(0, 7, false), 2);
        due("no beam", x.chance(1, 501, true), UNKNOWN);
        due("no beam", x.chance(1, 501, false), UNKNOWN);
        due("year 501", x.chance(0, 501, true), OUTSIDE);
        due("year -1", x.chance(0, -1, false), OUTSIDE);
        x.fall(0);
        due("down", x.chance(0, 0, true), STATE);
        due("down", x.chance(0, 0, false), STATE);
        due("down, outside", x.chance(0, 501, false), OUTSIDE);
    }

    private static void weakest() {
        begin("25 weakest");
        OldBeams x = tower();
        due("all alike", x.weakest(0), 0);
        x.load(3, 5, 40);
        due("3", x.weakest(0), 3);
        x.load(2, 1, 400);
        due("2: 360 needs 4", x.weakest(0), 2);
        x.weight(3, 0, 99);
        due("3: 10 of 109", x.weakest(0), 3);
        due("year -1", x.weakest(-1), OUTSIDE);
        due("year 501", x.weakest(501), OUTSIDE);
        x.fall(3);
        due("2", x.weakest(0), 2);
        x.fall(0);
        due("all are down", x.weakest(0), NONE);
        greatChances();
        nearChances();
    }

    /** Chances that are one another's neighbours; the weakest is taken away each time. */
    private static void nearChances() {
        int[] up = {2, 3, 5, 8, 13, 21, 34};
        int[] low = {5, 8, 13, 21, 34, 55, 89};
        int[] due = {1, 3, 5, 6, 4, 2, 0};
        OldBeams x = new OldBeams();
        for (int i = 0; i < up.length; i++) {
            x.beam(0, 10, 10, 10, 0);
            x.load(i, 5, 400);
            for (int t = 1; t < 10; t++) x.weight(i, t, 0);
            x.weight(i, 0, low[i] - up[i]);
            x.weight(i, 10, up[i]);
            due("chance", x.chance(i, 0, true), up[i]);
        }
        for (int i = 0; i < due.length; i++) {
            due("weakest of those left, " + i, x.weakest(0), due[i]);
            x.fall(due[i]);
        }
        OldBeams y = new OldBeams();
        for (int i = 0; i < 2; i++) {
            y.beam(0, 10, 10, 10, 0);
            y.load(i, 5, 400);
            y.weight(i, 10, 10);
            due("one half", y.chance(i, 0, false), 2);
        }
        due("of like ones the least", y.weakest(0), 0);
    }

    /** Cross products of these chances do not fit into a long, and a difference of doubles would be 0. */
    private static void greatChances() {
        OldBeams x = new OldBeams();
        for (int i = 0; i < 2; i++) {
            x.beam(0, 10, 10, 10, 0);
            x.load(i, 5, 400);
            for (int t = 1; t <= 10; t++) x.weight(i, t, 99);
        }
        x.weight(0, 0, 2);
        x.weight(1, 0, 2);
        x.weight(0, 10, 98);
        x.weight(1, 10, 98);
        for (int t = 0; t <= 9; t++) {
            x.tool(0, t, 9);
            x.tool(1, t, 9);
        }
        x.tool(0, 0, 2);
        x.tool(0, 10, 8);
        x.tool(1, 0, 1);
        x.tool(1, 10, 8);
        for (int i = 0; i < 8; i++) {
            x.look(0, 0, 1, 0);
            x.look(1, 1, 1, 0);
        }
        // 98 * 8^8 of 9 * 99 * 9^8 + that + 2 * 2^8, against the same with 2 * 1.
        due("the first has the greater rest", x.weakest(0), 0);
        long up = 98L * 16777216L;
        long low = 9L * 99L * 43046721L + up + 512L;
        long common = 2;
        while (up % 2 == 0 && low % 2 == 0) { up /= common; low /= common; }
        due("low is odd here", low % 2, 1);
        due("chance", x.chance(0, 0, true), up);
        due("chance", x.chance(0, 0, false), low);
    }

    private static void chain() {
        begin("26 chain");
        OldBeams x = tower();
        due("2 alone", x.chain(2, 0), 1);
        due("1 takes 2", x.chain(1, 0), 2);
        due("0 takes all above", x.chain(0, 0), 3);
        due("nothing is changed", x.count(5), 0);
        x.load(3, 5, 2);
        due("3 does not hold with 0 tenths", x.chain(2, 0), 2);
        onlyShare(x, 3, 1);
        due("with 1 it does", x.chain(2, 0), 1);
        due("no beam", x.chain(4, 501), UNKNOWN);
        due("year -1", x.chain(0, -1), OUTSIDE);
        due("year 501", x.chain(0, 501), OUTSIDE);
        x.fall(1);
        due("what was down counts", x.chain(3, 0), 3);
        due("down by another", x.chain(2, 0), STATE);
        due("down, outside", x.chain(2, 501), OUTSIDE);
        due("fallen", x.chain(1, 0), STATE);
        OldBeams y = seesaw();
        due("without 1 beam 0 lifts", y.chain(1, 0), 3);
        due("without 2 it stands", y.chain(2, 0), 1);
    }

    /** Beam 1 keeps beam 0 from lifting; beam 2 rests on beam 0. */
    private static OldBeams seesaw() {
        OldBeams x = new OldBeams();
        x.beam(0, 12, 40, 40, 0);
        x.seat(0, 0, 4, NONE, 0);
        x.load(0, 0, 30);
        x.beam(0, 10, 40, 40, 0);
        x.seat(1, 0, 0, 0, 12);
        x.load(1, 0, 20);
        x.beam(0, 10, 40, 40, 0);
        x.seat(2, 0, 0, 0, 8);
        onlyShare(x, 0, 10);
        onlyShare(x, 1, 10);
        onlyShare(x, 2, 10);
        return x;
    }

    private static void chainAt() {
        begin("27 chainAt");
        OldBeams x = seesaw();
        due("it", x.chainAt(1, 0, 0), 1);
        due("0 by itself", x.chainAt(1, 0, 1), 0);
        due("2 is down by 0", x.chainAt(1, 0, 2), NONE);
        due("i -1", x.chainAt(1, 0, -1), NONE);
        due("i 12", x.chainAt(1, 0, 12), NONE);
        due("no beam", x.chainAt(3, 501, 0), UNKNOWN);
        due("year 501", x.chainAt(0, 501, 0), OUTSIDE);
        due("year -1", x.chainAt(0, -1, 99), OUTSIDE);
        x.fall(2);
        due("down", x.chainAt(2, 0, 0), STATE);
        OldBeams y = new OldBeams();
        for (int i = 0; i < 4; i++) {
            y.beam(0, 10, 10, 10, 0);
            y.load(i, 5, 100);
        }
        y.tool(0, 10, 9);
        y.look(2, 0, 1, 5);
        int[] due = {3, 0, 1, 2};
        for (int i = 0; i < 4; i++) due("the least first, " + i, y.chainAt(3, 4, i), due[i]);
        due("as known in 5 beam 2 holds", y.chainAt(3, 5, 3), NONE);
        due("three", y.chain(3, 5), 3);
        OldBeams z = new OldBeams();
        z.beam(0, 10, 10, 10, 0);
        z.beam(0, 10, 10, 10, 0);
        z.beam(0, 10, 10, 10, 0);
        z.seat(1, 1, 10, 0, 5);
        z.load(1, 10, 60);
        z.load(2, 5, 2);
        onlyShare(z, 0, 1);
        // Beam 0 bears 100 and bends by 150 while 1 is up: without 1 it holds, as forces are reckoned anew.
        due("0 falls first with 2", z.chainAt(2, 0, 1), 0);
        due("all", z.chain(2, 0), 3);
        due("1 takes its load away, 2 does not hold", z.chainAt(1, 0, 1), 2);
        due("0 stands", z.chain(1, 0), 2);
    }

    private static void prop() {
        begin("28 prop");
        OldBeams x = oneBeam();
        due("first", x.prop(0, 0, 1), 0);
        due("second", x.prop(0, 10, 9999), 1);
        due("not set", x.count(4), 0);
        due("no beam", x.prop(1, 99, 0), UNKNOWN);
        due("place -1", x.prop(0, -1, 1), OUTSIDE);
        due("place 11", x.prop(0, 11, 1), OUTSIDE);
        due("push 0", x.prop(0, 0, 0), OUTSIDE);
        due("push 10000", x.prop(0, 0, 10000), OUTSIDE);
        for (int i = 2; i < 8; i++) due("prop " + i, x.prop(0, 1, 1), i);
        due("9th", x.prop(0, 1, 1), FULL);
        due("9th, outside", x.prop(0, 1, 0), OUTSIDE);
        due("9th, unknown", x.prop(1, 1, 1), UNKNOWN);
    }

    private static void set() {
        begin("29 set");
        OldBeams x = oneBeam();
        x.load(0, 5, 100);
        x.prop(0, 5, 60);
        x.prop(0, 5, 20);
        due("was not", x.set(0, true), 0);
        due("it pushes up", x.push(0, 0), 20);
        due("was", x.set(0, true), 1);
        due("the other", x.set(1, true), 0);
        due("both", x.push(0, 0), 10);
        due("was", x.set(0, false), 1);
        due("one", x.push(0, 0), 40);
        due("was not", x.set(0, false), 0);
        due("no place", x.set(2, true), UNKNOWN);
        due("place -1", x.set(-1, true), UNKNOWN);
        due("one", x.count(4), 1);
    }

    private static void fewest() {
        begin("30 fewest");
        OldBeams x = oneBeam();
        x.load(0, 5, 200);
        x.prop(0, 5, 50);
        x.prop(0, 5, 150);
        x.prop(0, 5, 100);
        x.prop(0, 5, 300);
        x.prop(0, 5, 100);
        due("none alone: 0 tenths bear nothing, so all 200", x.fewest(0), 2);
        due("nothing is changed", x.count(4), 0);
        x.set(3, true);
        due("what is set does not matter", x.fewest(0), 2);
        due("nothing is changed", x.count(4), 1);
        onlyShare(x, 0, 3);
        due("300 is borne, so one of 100 does", x.fewest(0), 1);
        x.tool(0, 3, 9);
        x.load(0, 5, 1500);
        due("not with all", x.fewest(0), NONE);
        due("year -1", x.fewest(-1), OUTSIDE);
        due("year 501", x.fewest(501), OUTSIDE);
        OldBeams y = oneBeam();
        y.prop(0, 5, 10);
        y.set(0, true);
        due("none is needed, the one would lift", y.fewest(0), 0);
        y.fall(0);
        due("one is down", y.fewest(0), NONE);
        OldBeams z = oneBeam();
        z.load(0, 5, 80);
        for (int i = 0; i < 8; i++) z.prop(0, 5, 10);
        due("all eight", z.fewest(0), 8);
        for (int i = 0; i < 8; i++) due("the i-th", z.needed(0, i), i);
        due("no ninth", z.needed(0, 8), NONE);
        z.tool(0, 10, 9);
        z.look(0, 0, 1, 10);
        due("as known in 9", z.fewest(9), 8);
        due("as known in 10", z.fewest(10), 0);
    }

    private static void needed() {
        begin("31 needed");
        OldBeams x = oneBeam();
        x.load(0, 5, 200);
        x.prop(0, 5, 50);
        x.prop(0, 5, 100);
        x.prop(0, 5, 100);
        x.prop(0, 5, 150);
        due("0 and 3 are ahead of 1 and 2", x.needed(0, 0), 0);
        due("0 and 3", x.needed(0, 1), 3);
        due("no third", x.needed(0, 2), NONE);
        due("i -1", x.needed(0, -1), NONE);
        due("i far", x.needed(0, Integer.MAX_VALUE), NONE);
        due("year -1", x.needed(-1, 0), OUTSIDE);
        due("year 501", x.needed(501, -1), OUTSIDE);
        x.load(0, 5, 9999);
        due("none would do", x.needed(0, 0), NONE);
    }

    private static void price() {
        begin("32 price");
        OldBeams x = new OldBeams();
        due("mend", x.price(0, 9999), 100);
        due("mend", x.price(0, 0), 9999);
        due("loss", x.price(1, 9999), 1000);
        due("loss", x.price(1, 0), 9999);
        due("what -1", x.price(-1, 0), OUTSIDE);
        due("what 2", x.price(2, 0), OUTSIDE);
        due("v -1", x.price(0, -1), OUTSIDE);
        due("v 10000", x.price(1, 10000), OUTSIDE);
        due("mend is kept", x.price(0, 1), 0);
        due("loss is kept", x.price(1, 1), 0);
    }

    private static void mean() {
        begin("33 mean");
        OldBeams x = oneBeam();
        due("surely holds", x.mean(0, 0, true), 0);
        due("surely holds", x.mean(0, 0, false), 1);
        x.load(0, 5, 160);
        due("mend is less", x.mean(0, 0, true), 100);
        due("mend is less", x.mean(0, 0, false), 1);
        x.price(0, 9999);
        due("1000 * 4 by 11", x.mean(0, 0, true), 4000);
        due("1000 * 4 by 11", x.mean(0, 0, false), 11);
        x.weight(0, 0, 3);
        due("1000 * 6 by 13", x.mean(0, 0, true), 6000);
        x.weight(0, 0, 4);
        due("1000 * 7 by 14", x.mean(0, 0, true), 500);
        due("1000 * 7 by 14", x.mean(0, 0, false), 1);
        x.tool(0, 0, 9);
        x.look(0, 0, 0, 3);
        due("3 by 10 * 1000", x.mean(0, 3, true), 300);
        due("ahead of it", x.mean(0, 2, true), 500);
        due("no beam", x.mean(1, 501, true), UNKNOWN);
        due("year 501", x.mean(0, 501, false), OUTSIDE);
        due("year -1", x.mean(0, -1, true), OUTSIDE);
        x.fall(0);
        due("down", x.mean(0, 0, true), STATE);
        due("down", x.mean(0, 0, false), STATE);
        due("down, outside", x.mean(0, -1, false), OUTSIDE);
    }

    private static void worth() {
        begin("34 worth");
        OldBeams x = oneBeam();
        x.load(0, 5, 160);
        for (int t = 4; t <= 10; t++) x.tool(0, t, 9);
        for (int t = 4; t <= 10; t++) x.tool(1, t, 6);
        for (int t = 0; t < 4; t++) x.tool(1, t, 3);
        x.price(0, 400);
        // Ahead 4000 by 11. Surely known: mend at 4 of 11, 1600 by 11.
        due("a sure look", x.worth(0, 0, 0, true), 2400);
        due("a sure look", x.worth(0, 0, 0, false), 11);
        // Outcome 1: odds 42 and 12 of 54: mean 222 by loss. Outcome 0: 21 and 24 of 45: mend.
        // (36000 - 12000 - 18000) by 99.
        due("an unsure look", x.worth(0, 1, 0, true), 2000);
        due("an unsure look", x.worth(0, 1, 0, false), 33);
        for (int t = 0; t <= 10; t++) x.tool(3, t, t < 4 ? 6 : 1);
        // Outcome 1: odds 7 and 24 of 31: mend, 12400. Outcome 0: 56 and 12 of 68: loss, 12000. 36000 ahead, all by 99.
        due("a look whose outcome 0 is the good one", x.worth(0, 3, 0, true), 11600);
        due("a look whose outcome 0 is the good one", x.worth(0, 3, 0, false), 99);
        due("a blind look", x.worth(0, 2, 0, true), 0);
        due("a blind look", x.worth(0, 2, 0, false), 1);
        x.look(0, 0, 1, 5);
        due("behind a sure look", x.worth(0, 0, 5, true), 0);
        due("as known ahead", x.worth(0, 0, 4, true), 2400);
        due("no beam", x.worth(1, 0, 501, true), UNKNOWN);
        due("no tool", x.worth(0, 4, 501, true), UNKNOWN);
        due("tool -1", x.worth(0, -1, 0, false), UNKNOWN);
        due("year 501", x.worth(0, 0, 501, true), OUTSIDE);
        due("year -1", x.worth(0, 0, -1, false), OUTSIDE);
        x.fall(0);
        due("down", x.worth(0, 0, 0, true), STATE);
        due("down", x.worth(0, 0, 0, false), STATE);
        due("down, no tool", x.worth(0, 4, 0, false), UNKNOWN);
        due("down, outside", x.worth(0, 0, 501, false), OUTSIDE);
    }

    private static void bestLook() {
        begin("35 bestLook");
        OldBeams x = tower();
        due("all are worth 0", x.bestLook(0), NONE);
        for (int t = 4; t <= 10; t++) {
            x.tool(1, t, 9);
            x.tool(3, t, 9);
        }
        x.load(3, 5, 160);
        due("beam 3, tool 1", x.bestLook(0), 31);
        x.load(2, 2, 200);
        due("2 needs 4 too: the least beam, then tool", x.bestLook(0), 21);
        x.tool(2, 4, 1);
        x.look(2, 1, 1, 10);
        due("as known in 9", x.bestLook(9), 21);
        due("as known in 10", x.bestLook(10), 31);
        due("year -1", x.bestLook(-1), OUTSIDE);
        due("year 501", x.bestLook(501), OUTSIDE);
        x.price(0, 0);
        due("nothing to win", x.bestLook(9), NONE);
        x.price(0, 100);
        x.fall(2);
        due("not one that is down", x.bestLook(9), 31);
        x.fall(3);
        due("none", x.bestLook(9), NONE);
        OldBeams y = oneBeam();
        y.load(0, 5, 400);
        y.weight(0, 10, 99);
        y.weight(0, 0, 0);
        y.price(0, 1);
        y.price(1, 10);
        y.tool(0, 10, 9);
        // Ahead 90 by 108; surely known 9 by 108.
        due("beam 0, tool 0, less than 1", y.bestLook(0), 0);
        due("its worth", y.worth(0, 0, 0, true), 3);
        due("its worth", y.worth(0, 0, 0, false), 4);
    }

    private static void count() {
        begin("36 count");
        OldBeams x = tower();
        x.load(0, 1, 1);
        x.load(0, 1, 1);
        x.load(0, 1, 1);
        x.takeOff(1);
        x.look(0, 0, 0, 0);
        for (int i = 0; i < 6; i++) x.prop(0, 1, 1);
        x.set(0, true);
        x.set(5, true);
        x.set(3, true);
        x.set(0, false);
        x.fall(0);
        long[] due = {4, 2, 1, 6, 2, 3};
        for (int what = 0; what <= 5; what++) due("count(" + what + ")", x.count(what), due[what]);
        due("what -1", x.count(-1), OUTSIDE);
        due("what 6", x.count(6), OUTSIDE);
    }

    /** As many of all as there may be, so that no row is left a place too short. */
    private static void fullObject() {
        begin("full object");
        OldBeams x = new OldBeams();
        for (int i = 0; i < 12; i++) {
            x.beam(i % 4, 60, 40, 40, 0);
            if (i > 0) x.seat(i, 1, 60, i - 1, 60);
        }
        for (int i = 0; i < 40; i++) x.load(i % 12, 60, 9999);
        for (int i = 0; i < 8; i++) x.prop(i, 60, 9999);
        for (int t = 1; t <= 10; t++) x.tool(3, t, 9);
        for (int i = 0; i < 60; i++) x.look(i % 12, 3, 1, 500);
        due("all loads go to the last seat", x.push(0, 1), 40 * 9999);
        due("none bends", x.greatest(0, false), 0);
        due("it stands", x.stands(0, 500, false), 1);
        due("until", x.until(0, false), 500);
        due("none is needed", x.fewest(500), 0);
        due("none is needed", x.needed(500, 0), NONE);
        due("all alike", x.weakest(500), 0);
        due("no look is worth anything", x.bestLook(500), NONE);
        due("the last one alone", x.chain(11, 500), 1);
        due("all", x.chain(0, 500), 12);
        due("one after the other", x.chainAt(0, 500, 1), NONE);
        due("the least share", x.share(11, 500, 500, false), 1);
        for (int i = 0; i < 8; i++) due("set", x.set(i, true), 0);
        due("and with all props", x.push(0, 1), 32 * 9999);
        due("all have fallen", x.fall(0), 12);
        OldBeams y = new OldBeams();
        for (int i = 0; i < 12; i++) {
            y.beam(0, 2, 1, 1, 0);
            y.load(i, 1, 9999);
        }
        due("all fall by themselves", y.chain(11, 0), 12);
        due("the last", y.chainAt(11, 0, 11), 10);
        due("no more", y.chainAt(11, 0, 12), NONE);
    }

    private static void wildNumbers() {
        begin("wild numbers");
        OldBeams x = oneBeam();
        for (int w : WILD) {
            due("kind", x.kind(w, 0, 1), UNKNOWN);
            due("kind", x.kind(0, w, 1), OUTSIDE);
            due("beam", x.beam(0, w, 1, 1, 0), OUTSIDE);
            due("seat", x.seat(0, 0, w, NONE, 0), OUTSIDE);
            if (w != NONE) due("seat", x.seat(0, 0, 0, w, 0), STATE);
            due("load", x.load(0, w, 1), OUTSIDE);
            due("takeOff", x.takeOff(w), UNKNOWN);
            due("fall", x.fall(w), UNKNOWN);
            due("push", x.push(w, w), UNKNOWN);
            due("bending", x.bending(0, w), OUTSIDE);
            due("look", x.look(0, 0, 0, w), OUTSIDE);
            due("share", x.share(0, 0, w, true), OUTSIDE);
            due("stands", x.stands(w, w, true), OUTSIDE);
            due("until", x.until(w, true), OUTSIDE);
            due("chainAt", x.chainAt(0, 0, w), NONE);
            due("set", x.set(w, true), UNKNOWN);
            due("needed", x.needed(0, w), NONE);
            due("worth", x.worth(0, w, 0, true), UNKNOWN);
            due("about", x.about(0, w), OUTSIDE);
            due("count", x.count(w), OUTSIDE);
        }
    }
}
