import java.lang.reflect.Method;
import java.math.BigInteger;
import java.util.ArrayList;
import java.util.Arrays;
import java.util.List;
import java.util.Random;
import java.util.TreeSet;

/**
 * Long runs of drawn calls, each answered by the class and by a slow model beside it. The model follows the
 * document's words one by one, with numbers that cannot overflow; seeds are fixed, so a run can be told again.
 */
public final class ModelTest {
    private static final int UNKNOWN = -900001, OUTSIDE = -900002, STATE = -900003, FULL = -900004, NONE = -900009;
    private static final int RUNS = 900, CALLS = 512;

    public static void main(String[] args) throws ReflectiveOperationException {
        Method[] ofClass = Draw.callsOf(OldBeams.class);
        Method[] ofModel = Draw.callsOf(Model.class);
        int wrong = 0;
        long[] answers = new long[Draw.NAMES.length];
        for (int seed = 0; seed < RUNS && wrong < 10; seed++) {
            Draw draw = new Draw(seed);
            OldBeams x = new OldBeams();
            Model m = new Model();
            for (int c = 0; c < CALLS; c++) {
                draw.next(m, c);
                long got = draw.ask(x, ofClass);
                long want = draw.ask(m, ofModel);
                if (want > UNKNOWN) answers[draw.call]++;
                if (got != want) {
                    System.out.println("seed " + seed + ", call " + c + ": " + draw.told() + " answered " + got + ", due is " + want);
                    wrong++;
                    break;
                }
            }
        }
        for (int i = 0; i < answers.length; i++) {
            if (answers[i] >= 100) continue;
            System.out.println("the runs hardly ever ask " + Draw.NAMES[i] + " so that it answers");
            wrong++;
        }
        System.out.println(wrong == 0 ? "all answers are as due" : "some answers are not as due");
        if (wrong != 0) System.exit(1);
    }

    /** Draws calls: mostly such that can be answered, some at the edges and beyond. */
    private static final class Draw {
        static final String[] NAMES = {"kind", "beam", "seat", "about", "wet", "load", "takeOff", "fall", "push", "bending",
            "greatest", "lifts", "holds", "needs", "weight", "tool", "look", "odds", "quarrel", "share", "stands", "until",
            "chance", "weakest", "chain", "chainAt", "prop", "set", "fewest", "needed", "price", "mean", "worth", "bestLook", "count"};
        static final int BEAM = 1, SEAT = 2, LOAD = 5, TAKE_OFF = 6, FALL = 7, WEIGHT = 14, TOOL = 15, LOOK = 16, CHAIN = 24;
        private final Random random;
        private final boolean strong;
        private final boolean sharp;
        private final boolean gentle;
        private final int usualWeight;
        private final int mostBeams;
        private final int mostLoads;
        /** Calls that come first: drawn ones alone hardly ever get to numbers beyond an int. */
        private final List<int[]> opening = new ArrayList<>();
        private int year = 0;
        int call;
        final int[] n = new int[5];
        boolean yes;

        Draw(int seed) {
            random = new Random(seed);
            strong = random.nextBoolean();
            sharp = random.nextInt(3) == 0;
            gentle = random.nextInt(3) > 0;
            usualWeight = random.nextInt(4) == 0 ? 9999 : 40;
            mostBeams = gentle ? 1 + random.nextInt(4) : 13;
            mostLoads = gentle ? 1 + random.nextInt(6) : 41;
            if (seed % 6 == 4) openWithTower();
            if (seed % 6 == 5) openWithGreatOdds();
        }

        private void open(String name, int... numbers) {
            int[] all = new int[1 + numbers.length];
            all[0] = Arrays.asList(NAMES).indexOf(name);
            System.arraycopy(numbers, 0, all, 1, numbers.length);
            opening.add(all);
        }

        /** Seats as near to one another as may be, on the ends of the beam below: so each pushes far more than it bears. */
        private void openWithTower() {
            int turn = 1 + random.nextInt(4);
            for (int i = 0; i < 12; i++) {
                int length = i > 0 && random.nextInt(4) == 0 ? 3 * from(1, 20) : 60;
                open("beam", from(0, 3), length, 40, 40, 0);
                boolean atEnd = i / turn % 2 == 1;
                int on = i == 0 ? NONE : i - 1;
                open("seat", i, atEnd ? 0 : 1, atEnd ? length / 3 * 2 : length / 3, on, atEnd ? 0 : 60);
                open("seat", i, atEnd ? 1 : 0, atEnd ? length : 0, on, atEnd ? 60 : 0);
            }
            for (int i = 0; i < 20; i++) open("load", 11, turn < 3 ? 60 : 0, from(1, 9999));
        }

        private void openWithGreatOdds() {
            for (int i = 0; i < 2; i++) {
                open("beam", 0, 10, 10, 10, 0);
                open("load", i, 5, from(1, 400));
                for (int t = 0; t <= 10; t++) open("weight", i, t, from(90, 99));
            }
            for (int tool = 0; tool < 4; tool++) {
                for (int t = 0; t <= 10; t++) open("tool", tool, t, random.nextInt(4) == 0 ? from(1, 9) : 9 - (t + tool / 3) % 3);
            }
            for (int l = 0; l < 16; l++) open("look", l % 2, from(0, 3), 1, 0);
        }

        private int upTo(int most) {
            return random.nextInt(Math.max(most, 0) + 1);
        }

        private int from(int least, int most) {
            if (random.nextInt(60) == 0) {
                int[] wild = {least - 1, most + 1, Integer.MIN_VALUE, Integer.MAX_VALUE, NONE, UNKNOWN, -1, 0};
                return wild[random.nextInt(wild.length)];
            }
            if (random.nextInt(12) == 0) return random.nextBoolean() ? least : most;
            return least + upTo(most - least);
        }

        private int beamOf(Model m) {
            return from(0, Math.max(0, m.beams.size() - 1));
        }

        private int placeOf(Model m, int beam) {
            return from(0, m.isBeam(beam) ? m.beams.get(beam).length : 10);
        }

        void next(Model m, int c) {
            if (c < opening.size()) {
                int[] all = opening.get(c);
                call = all[0];
                put(Arrays.copyOfRange(all, 1, all.length));
                return;
            }
            call = c < 120 && random.nextInt(3) > 0 ? drawBuilding() : random.nextInt(NAMES.length);
            if (call == FALL && random.nextInt(gentle ? 30 : 8) > 0) call = CHAIN;
            if (call == BEAM && m.beams.size() >= mostBeams) call = WEIGHT;
            if (call == LOAD && m.count(1) >= mostLoads) call = TAKE_OFF;
            if (call == SEAT && gentle && random.nextInt(3) > 0) call = WEIGHT;
            if (call == LOOK && gentle && c < 120) call = TOOL;
            yes = random.nextBoolean();
            drawNumbers(m);
        }

        private int drawBuilding() {
            int[] building = {1, 1, 1, 2, 2, 2, 5, 5, 14, 14, 15, 15, 16, 26, 27, 0, 4, 30};
            return building[random.nextInt(building.length)];
        }

        private void put(int... numbers) {
            System.arraycopy(numbers, 0, n, 0, numbers.length);
        }

        private void drawNumbers(Model m) {
            int b = beamOf(m);
            int y = from(0, random.nextBoolean() ? 500 : Math.min(500, year + 3));
            switch (NAMES[call]) {
                case "kind": put(from(0, 3), from(0, 2), random.nextInt(3) == 0 ? from(1, 999) : from(0, 10)); break;
                case "beam": put(from(0, 3), from(2, 60), strong ? from(20, 40) : from(1, 40), strong ? from(30, 40) : from(1, 40), from(0, 500)); break;
                case "seat":
                    int seat = from(0, 1);
                    int length = m.isBeam(b) ? m.beams.get(b).length : 10;
                    int place = random.nextInt(4) == 0 ? from(0, length) : seat == 0 ? from(0, length / 3) : from(length - length / 3, length);
                    int on = random.nextInt(4) == 0 ? NONE : random.nextInt(20) == 0 ? beamOf(m) : b > 0 && m.isBeam(b) ? from(0, b - 1) : NONE;
                    put(b, seat, place, on, placeOf(m, on));
                    break;
                case "about": put(b, from(0, 7)); break;
                case "load": drawForce(m, b, 2); break;
                case "takeOff": put(from(0, Math.max(0, m.loads.size() - 1))); break;
                case "push": put(b, from(0, 1)); break;
                case "bending": put(b, placeOf(m, b)); break;
                case "holds": put(b, from(0, 10)); break;
                case "weight": drawWeight(b); break;
                case "tool": put(from(0, 3), from(0, 10), sharp ? from(1, 9) : from(0, 9)); break;
                case "look":
                    if (random.nextInt(4) == 0) year = Math.min(500, year + random.nextInt(12));
                    put(sharp ? upTo(2) : b, from(0, 3), sharp ? 1 : from(0, 1), random.nextInt(15) == 0 ? y : year);
                    break;
                case "odds": put(b, from(0, 10), y); break;
                case "share": put(b, y, random.nextInt(6) == 0 ? from(0, 500) : Math.min(500, y + upTo(40))); break;
                case "stands": put(y, random.nextInt(6) == 0 ? from(0, 500) : Math.min(500, y + upTo(20))); break;
                case "until": case "weakest": case "fewest": case "bestLook": put(y); break;
                case "chainAt": put(b, y, from(0, 3)); break;
                case "prop": drawForce(m, b, 1); break;
                case "set": put(from(0, Math.max(0, m.props.size() - 1))); break;
                case "needed": put(y, from(0, 3)); break;
                case "price":
                    int what = from(0, 1);
                    put(what, from(0, random.nextInt(8) == 0 ? 9999 : what == 0 ? 300 : 1500));
                    break;
                case "worth": put(b, from(0, 3), y); break;
                case "count": put(from(0, 5)); break;
                default: put(b, y);
            }
        }

        /** In a gentle run so much, at such a place, that the beam holds with some shares and not with others. */
        private void drawForce(Model m, int b, int part) {
            if (!gentle || !m.isBeam(b) || random.nextInt(15) == 0) {
                put(b, placeOf(m, b), from(1, random.nextInt(10) == 0 ? 9999 : usualWeight));
                return;
            }
            int length = m.beams.get(b).length;
            int fair = (int) Math.max(1, Math.min(9999, part * m.whole(b) / length));
            int place = random.nextInt(3) == 0 ? length / 2 : from(length / 3, length - length / 3);
            put(b, place, from(Math.max(1, fair / 4), fair));
        }

        private void drawWeight(int b) {
            if (sharp) put(b, from(0, 10), from(90, 99));
            else if (gentle) put(b, random.nextInt(8) == 0 ? from(0, 10) : from(0, 7), random.nextInt(8) == 0 ? from(0, 99) : 0);
            else put(b, from(0, 10), random.nextInt(3) == 0 ? from(0, 99) : 0);
        }

        String told() {
            return NAMES[call] + "(" + n[0] + ", " + n[1] + ", " + n[2] + ", " + n[3] + ", " + n[4] + "; " + yes + ")";
        }

        /** The numbers go, as drawn, to the call of that name, and the drawn yes or no wherever it takes one. */
        long ask(Object asked, Method[] calls) throws ReflectiveOperationException {
            Class<?>[] takes = calls[call].getParameterTypes();
            Object[] with = new Object[takes.length];
            for (int i = 0; i < with.length; i++) {
                if (takes[i] == boolean.class) with[i] = yes;
                else with[i] = n[i];
            }
            return ((Number) calls[call].invoke(asked, with)).longValue();
        }

        static Method[] callsOf(Class<?> asked) {
            Method[] calls = new Method[NAMES.length];
            for (Method m : asked.getDeclaredMethods()) {
                int i = Arrays.asList(NAMES).indexOf(m.getName());
                if (i >= 0) calls[i] = m;
            }
            return calls;
        }
    }

    private record Seat(int place, int on, int where) { }

    private record Force(int place, BigInteger size) { }

    private record Look(int number, int beam, int tool, int outcome, int year) { }

    private static final class ModelBeam {
        int kind, length, width, height;
        boolean wet, fallen;
        Seat[] seats = new Seat[2];
        int[] weights = {1, 1, 1, 1, 1, 1, 1, 1, 1, 1, 1};
    }

    private static final class ModelLoad {
        int beam, place, weight;
        boolean off;
    }

    private static final class ModelProp {
        int beam, place, push;
        boolean set;
    }

    /** A fraction of great numbers, in least terms. */
    private static final class Part {
        final BigInteger above, below;

        Part(BigInteger a, BigInteger b) {
            BigInteger common = a.gcd(b);
            above = a.divide(common);
            below = b.divide(common);
        }

        static Part of(long v) {
            return new Part(BigInteger.valueOf(v), BigInteger.ONE);
        }

        Part plus(Part o) {
            return new Part(above.multiply(o.below).add(o.above.multiply(below)), below.multiply(o.below));
        }

        Part times(Part o) {
            return new Part(above.multiply(o.above), below.multiply(o.below));
        }

        Part less(Part o) {
            return plus(o.times(Part.of(-1)));
        }

        int against(Part o) {
            return above.multiply(o.below).compareTo(o.above.multiply(below));
        }

        long told(boolean upper) {
            return upper ? above.longValueExact() : below.longValueExact();
        }
    }

    private static final class Model {
        final int[][] kinds = {{100, 0, 1}, {100, 0, 1}, {100, 0, 1}, {100, 0, 1}};
        final List<ModelBeam> beams = new ArrayList<>();
        final List<ModelLoad> loads = new ArrayList<>();
        final List<ModelProp> props = new ArrayList<>();
        final List<Look> looks = new ArrayList<>();
        final int[][] tools = new int[4][11];
        int mend = 100, loss = 1000;

        boolean isBeam(int b) {
            return b >= 0 && b < beams.size();
        }

        private static boolean not(int v, int least, int most) {
            return v < least || v > most;
        }

        private static int yes(boolean b) {
            return b ? 1 : 0;
        }

        long kind(int kind, int what, int v) {
            if (not(kind, 0, 3)) return UNKNOWN;
            if (not(what, 0, 2) || what == 0 && not(v, 1, 999) || what != 0 && not(v, 0, 10)) return OUTSIDE;
            int was = kinds[kind][what];
            kinds[kind][what] = v;
            return was;
        }

        long beam(int kind, int length, int width, int height, int year) {
            if (not(kind, 0, 3)) return UNKNOWN;
            if (not(length, 2, 60) || not(width, 1, 40) || not(height, 1, 40) || not(year, 0, 500)) return OUTSIDE;
            if (beams.size() == 12) return FULL;
            ModelBeam b = new ModelBeam();
            b.kind = kind;
            b.length = length;
            b.width = width;
            b.height = height;
            b.seats[0] = new Seat(0, NONE, 0);
            b.seats[1] = new Seat(length, NONE, 0);
            beams.add(b);
            return beams.size() - 1;
        }

        long seat(int beam, int seat, int place, int on, int where) {
            if (!isBeam(beam)) return UNKNOWN;
            ModelBeam b = beams.get(beam);
            if (not(seat, 0, 1) || not(place, 0, b.length)) return OUTSIDE;
            if (on != NONE && (!isBeam(on) || on >= beam)) return STATE;
            if (on != NONE && not(where, 0, beams.get(on).length)) return OUTSIDE;
            int apart = seat == 0 ? b.seats[1].place - place : place - b.seats[0].place;
            if (apart * 3 < b.length) return STATE;
            int was = b.seats[seat].place;
            b.seats[seat] = new Seat(place, on, where);
            return was;
        }

        long about(int beam, int what) {
            if (!isBeam(beam)) return UNKNOWN;
            if (not(what, 0, 7)) return OUTSIDE;
            ModelBeam b = beams.get(beam);
            long[] told = {b.length, b.seats[0].place, b.seats[1].place, b.seats[0].on, b.seats[1].on,
                whole(beam), yes(b.wet), yes(isDown(beam, fallen()))};
            return told[what];
        }

        long wet(int beam, boolean wet) {
            if (!isBeam(beam)) return UNKNOWN;
            int was = yes(beams.get(beam).wet);
            beams.get(beam).wet = wet;
            return was;
        }

        long load(int beam, int place, int weight) {
            if (!isBeam(beam)) return UNKNOWN;
            if (not(place, 0, beams.get(beam).length) || not(weight, 1, 9999)) return OUTSIDE;
            if (loads.size() == 40) return FULL;
            ModelLoad l = new ModelLoad();
            l.beam = beam;
            l.place = place;
            l.weight = weight;
            loads.add(l);
            return loads.size() - 1;
        }

        long takeOff(int load) {
            if (not(load, 0, loads.size() - 1)) return UNKNOWN;
            if (loads.get(load).off) return STATE;
            loads.get(load).off = true;
            return loads.get(load).weight;
        }

        long fall(int beam) {
            if (!isBeam(beam)) return UNKNOWN;
            if (beams.get(beam).fallen) return STATE;
            beams.get(beam).fallen = true;
            return downs(fallen());
        }

        // What follows is always reckoned for a set of fallen beams and a set of props.

        private TreeSet<Integer> fallen() {
            TreeSet<Integer> all = new TreeSet<>();
            for (int i = 0; i < beams.size(); i++) if (beams.get(i).fallen) all.add(i);
            return all;
        }

        private TreeSet<Integer> propsSet() {
            TreeSet<Integer> all = new TreeSet<>();
            for (int i = 0; i < props.size(); i++) if (props.get(i).set) all.add(i);
            return all;
        }

        private boolean isDown(int beam, TreeSet<Integer> fallen) {
            if (fallen.contains(beam)) return true;
            for (Seat s : beams.get(beam).seats) if (s.on != NONE && isDown(s.on, fallen)) return true;
            return false;
        }

        private int downs(TreeSet<Integer> fallen) {
            int many = 0;
            for (int i = 0; i < beams.size(); i++) if (isDown(i, fallen)) many++;
            return many;
        }

        /** The state of a frame, its forces from the greatest beam down. */
        private final class Reckoned {
            final List<List<Force>> forces = new ArrayList<>();
            final BigInteger[][] pushes = new BigInteger[beams.size()][2];
            final TreeSet<Integer> gone;

            Reckoned(TreeSet<Integer> gone, TreeSet<Integer> set) {
                this.gone = gone;
                for (int i = 0; i < beams.size(); i++) forces.add(new ArrayList<>());
                for (ModelLoad l : loads) if (!l.off) forces.get(l.beam).add(new Force(l.place, BigInteger.valueOf(l.weight)));
                for (int p : set) forces.get(props.get(p).beam).add(new Force(props.get(p).place, BigInteger.valueOf(-props.get(p).push)));
                for (int i = beams.size() - 1; i >= 0; i--) if (!isDown(i, gone)) reckon(i);
            }

            private void reckon(int i) {
                Seat[] seats = beams.get(i).seats;
                BigInteger turning = BigInteger.ZERO, all = BigInteger.ZERO;
                for (Force f : forces.get(i)) {
                    turning = turning.add(f.size.multiply(BigInteger.valueOf(f.place - seats[0].place)));
                    all = all.add(f.size);
                }
                BigInteger[] parts = turning.divideAndRemainder(BigInteger.valueOf(seats[1].place - seats[0].place));
                pushes[i][1] = parts[1].signum() < 0 ? parts[0].subtract(BigInteger.ONE) : parts[0];
                pushes[i][0] = all.subtract(pushes[i][1]);
                for (int s = 0; s < 2; s++) if (seats[s].on != NONE) forces.get(seats[s].on).add(new Force(seats[s].where, pushes[i][s]));
            }

            BigInteger bendingAt(int i, int x) {
                BigInteger sum = BigInteger.ZERO;
                for (Force f : forces.get(i)) if (f.place < x) sum = sum.add(f.size.multiply(BigInteger.valueOf(x - f.place)));
                for (int s = 0; s < 2; s++) {
                    int at = beams.get(i).seats[s].place;
                    if (at < x) sum = sum.subtract(pushes[i][s].multiply(BigInteger.valueOf(x - at)));
                }
                return sum;
            }

            int greatestPlace(int i) {
                int found = 0;
                for (int x = 1; x <= beams.get(i).length; x++) {
                    if (bendingAt(i, x).abs().compareTo(bendingAt(i, found).abs()) > 0) found = x;
                }
                return found;
            }

            boolean lifted(int i) {
                return pushes[i][0].signum() < 0 || pushes[i][1].signum() < 0;
            }

            boolean held(int i, int share) {
                if (lifted(i)) return false;
                BigInteger bears = BigInteger.valueOf(whole(i) * share / 10);
                for (int x = 0; x <= beams.get(i).length; x++) if (bendingAt(i, x).abs().compareTo(bears) > 0) return false;
                return true;
            }

            boolean stood(int[] shares) {
                for (int i = 0; i < beams.size(); i++) if (isDown(i, gone) || !held(i, shares[i])) return false;
                return true;
            }
        }

        private Reckoned now() {
            return new Reckoned(fallen(), propsSet());
        }

        private long whole(int beam) {
            ModelBeam b = beams.get(beam);
            return (long) kinds[b.kind][0] * b.width * b.height * b.height / 100;
        }

        private long refused(int beam, boolean outside) {
            if (!isBeam(beam)) return UNKNOWN;
            if (outside) return OUTSIDE;
            return isDown(beam, fallen()) ? STATE : 0;
        }

        long push(int beam, int seat) {
            long r = refused(beam, not(seat, 0, 1));
            return r != 0 ? r : now().pushes[beam][seat].longValueExact();
        }

        long bending(int beam, int place) {
            long r = refused(beam, isBeam(beam) && not(place, 0, beams.get(beam).length));
            return r != 0 ? r : now().bendingAt(beam, place).longValueExact();
        }

        long greatest(int beam, boolean place) {
            long r = refused(beam, false);
            if (r != 0) return r;
            Reckoned n = now();
            int at = n.greatestPlace(beam);
            return place ? at : n.bendingAt(beam, at).abs().longValueExact();
        }

        long lifts(int beam) {
            long r = refused(beam, false);
            return r != 0 ? r : yes(now().lifted(beam));
        }

        long holds(int beam, int share) {
            long r = refused(beam, not(share, 0, 10));
            return r != 0 ? r : yes(now().held(beam, share));
        }

        long needs(int beam) {
            long r = refused(beam, false);
            if (r != 0) return r;
            Reckoned n = now();
            for (int t = 0; t <= 10; t++) if (n.held(beam, t)) return t;
            return NONE;
        }

        private List<Look> looksAt(int beam, int year) {
            List<Look> all = new ArrayList<>();
            for (Look l : looks) if (l.beam == beam && l.year <= year) all.add(l);
            return all;
        }

        long weight(int beam, int share, int v) {
            if (!isBeam(beam)) return UNKNOWN;
            if (not(share, 0, 10) || not(v, 0, 99)) return OUTSIDE;
            int[] w = beams.get(beam).weights;
            int others = -w[share];
            for (int each : w) others += each;
            if (!looksAt(beam, 500).isEmpty() || others + v == 0) return STATE;
            int was = w[share];
            w[share] = v;
            return was;
        }

        long tool(int tool, int share, int v) {
            if (not(tool, 0, 3)) return UNKNOWN;
            if (not(share, 0, 10) || not(v, 0, 9)) return OUTSIDE;
            for (Look l : looks) if (l.tool == tool) return STATE;
            int was = tools[tool][share];
            tools[tool][share] = v;
            return was;
        }

        long look(int beam, int tool, int outcome, int year) {
            if (!isBeam(beam) || not(tool, 0, 3)) return UNKNOWN;
            if (not(outcome, 0, 1) || not(year, 0, 500)) return OUTSIDE;
            if (!looks.isEmpty() && looks.get(looks.size() - 1).year > year) return STATE;
            if (looks.size() == 60 || looksAt(beam, 500).size() == 8) return FULL;
            looks.add(new Look(looks.size(), beam, tool, outcome, year));
            return looks.size() - 1;
        }

        private BigInteger[] timesLook(BigInteger[] odds, int tool, int outcome) {
            BigInteger[] next = new BigInteger[11];
            for (int t = 0; t <= 10; t++) next[t] = odds[t].multiply(BigInteger.valueOf(outcome == 1 ? tools[tool][t] : 9 - tools[tool][t]));
            return next;
        }

        private BigInteger together(BigInteger[] odds) {
            BigInteger sum = BigInteger.ZERO;
            for (BigInteger o : odds) sum = sum.add(o);
            return sum;
        }

        private BigInteger[] oddsOf(int beam, int year, List<Integer> quarrels) {
            BigInteger[] odds = new BigInteger[11];
            for (int t = 0; t <= 10; t++) odds[t] = BigInteger.valueOf(beams.get(beam).weights[t]);
            for (Look l : looksAt(beam, year)) {
                BigInteger[] next = timesLook(odds, l.tool, l.outcome);
                if (together(next).signum() == 0) {
                    quarrels.add(l.number);
                    continue;
                }
                BigInteger common = BigInteger.ZERO;
                for (BigInteger o : next) common = common.gcd(o);
                for (int t = 0; t <= 10; t++) odds[t] = next[t].divide(common);
            }
            return odds;
        }

        private BigInteger[] oddsOf(int beam, int year) {
            return oddsOf(beam, year, new ArrayList<>());
        }

        long odds(int beam, int share, int year) {
            if (!isBeam(beam)) return UNKNOWN;
            if (not(share, 0, 10) || not(year, 0, 500)) return OUTSIDE;
            return oddsOf(beam, year)[share].longValueExact();
        }

        long quarrel(int beam, int year) {
            if (!isBeam(beam)) return UNKNOWN;
            if (not(year, 0, 500)) return OUTSIDE;
            List<Integer> quarrels = new ArrayList<>();
            oddsOf(beam, year, quarrels);
            return quarrels.isEmpty() ? NONE : quarrels.get(0);
        }

        private int shareOf(int beam, int year, int later, boolean most) {
            BigInteger[] odds = oddsOf(beam, year);
            TreeSet<Integer> may = new TreeSet<>();
            for (int t = 0; t <= 10; t++) if (odds[t].signum() > 0) may.add(t);
            ModelBeam b = beams.get(beam);
            int lost = (later - year) * kinds[b.kind][b.wet ? 2 : 1] / 10;
            return Math.max(0, (most ? may.last() : may.first()) - lost);
        }

        private int[] sharesOf(int year, int later, boolean most) {
            int[] shares = new int[beams.size()];
            for (int i = 0; i < shares.length; i++) shares[i] = shareOf(i, year, later, most);
            return shares;
        }

        long share(int beam, int year, int later, boolean most) {
            if (!isBeam(beam)) return UNKNOWN;
            if (not(year, 0, 500) || not(later, year, 500)) return OUTSIDE;
            return shareOf(beam, year, later, most);
        }

        long stands(int year, int later, boolean maybe) {
            if (not(year, 0, 500) || not(later, year, 500)) return OUTSIDE;
            return yes(now().stood(sharesOf(year, later, maybe)));
        }

        long until(int year, boolean maybe) {
            if (not(year, 0, 500)) return OUTSIDE;
            Reckoned n = now();
            int y = year;
            int last = NONE;
            int[] tried = null;
            boolean stood = false;
            while (y <= 500) {
                int[] shares = sharesOf(year, y, maybe);
                if (tried == null || !Arrays.equals(tried, shares)) stood = n.stood(shares);
                if (!stood) break;
                tried = shares;
                last = y++;
            }
            return last;
        }

        private Part chanceOf(Reckoned n, int beam, BigInteger[] odds) {
            BigInteger held = BigInteger.ZERO;
            for (int t = 0; t <= 10; t++) if (n.held(beam, t)) held = held.add(odds[t]);
            return new Part(held, together(odds));
        }

        long chance(int beam, int year, boolean upper) {
            long r = refused(beam, not(year, 0, 500));
            return r != 0 ? r : chanceOf(now(), beam, oddsOf(beam, year)).told(upper);
        }

        long weakest(int year) {
            if (not(year, 0, 500)) return OUTSIDE;
            Reckoned n = now();
            int found = NONE;
            Part least = null;
            for (int i = 0; i < beams.size(); i++) {
                if (isDown(i, fallen())) continue;
                Part c = chanceOf(n, i, oddsOf(i, year));
                if (least == null || c.against(least) < 0) {
                    least = c;
                    found = i;
                }
            }
            return found;
        }

        private List<Integer> fallsWith(int beam, int year, TreeSet<Integer> gone) {
            int[] shares = sharesOf(year, year, false);
            List<Integer> order = new ArrayList<>();
            int next = beam;
            while (next != NONE) {
                order.add(next);
                gone.add(next);
                Reckoned n = new Reckoned(gone, propsSet());
                next = NONE;
                for (int i = beams.size() - 1; i >= 0; i--) if (!isDown(i, gone) && !n.held(i, shares[i])) next = i;
            }
            return order;
        }

        long chain(int beam, int year) {
            long r = refused(beam, not(year, 0, 500));
            if (r != 0) return r;
            TreeSet<Integer> gone = fallen();
            fallsWith(beam, year, gone);
            return downs(gone);
        }

        long chainAt(int beam, int year, int i) {
            long r = refused(beam, not(year, 0, 500));
            if (r != 0) return r;
            List<Integer> order = fallsWith(beam, year, fallen());
            return not(i, 0, order.size() - 1) ? NONE : order.get(i);
        }

        long prop(int beam, int place, int push) {
            if (!isBeam(beam)) return UNKNOWN;
            if (not(place, 0, beams.get(beam).length) || not(push, 1, 9999)) return OUTSIDE;
            if (props.size() == 8) return FULL;
            ModelProp p = new ModelProp();
            p.beam = beam;
            p.place = place;
            p.push = push;
            props.add(p);
            return props.size() - 1;
        }

        long set(int prop, boolean set) {
            if (not(prop, 0, props.size() - 1)) return UNKNOWN;
            int was = yes(props.get(prop).set);
            props.get(prop).set = set;
            return was;
        }

        /** Grows a set by places in their order, so that the first found is the first by places. */
        private boolean findProps(TreeSet<Integer> chosen, int from, int left, int[] shares) {
            if (left == 0) return new Reckoned(fallen(), chosen).stood(shares);
            for (int p = from; p < props.size(); p++) {
                chosen.add(p);
                if (findProps(chosen, p + 1, left - 1, shares)) return true;
                chosen.remove(p);
            }
            return false;
        }

        private List<Integer> fewestOf(int year) {
            int[] shares = sharesOf(year, year, false);
            for (int many = 0; many <= props.size(); many++) {
                TreeSet<Integer> chosen = new TreeSet<>();
                if (findProps(chosen, 0, many, shares)) return new ArrayList<>(chosen);
            }
            return null;
        }

        long fewest(int year) {
            if (not(year, 0, 500)) return OUTSIDE;
            List<Integer> found = fewestOf(year);
            return found == null ? NONE : found.size();
        }

        long needed(int year, int i) {
            if (not(year, 0, 500)) return OUTSIDE;
            List<Integer> found = fewestOf(year);
            return found == null || not(i, 0, found.size() - 1) ? NONE : found.get(i);
        }

        long price(int what, int v) {
            if (not(what, 0, 1) || not(v, 0, 9999)) return OUTSIDE;
            int was = what == 0 ? mend : loss;
            if (what == 0) mend = v; else loss = v;
            return was;
        }

        private Part meanOf(Reckoned n, int beam, BigInteger[] odds) {
            Part risk = Part.of(loss).times(Part.of(1).less(chanceOf(n, beam, odds)));
            return risk.against(Part.of(mend)) < 0 ? risk : Part.of(mend);
        }

        long mean(int beam, int year, boolean upper) {
            long r = refused(beam, not(year, 0, 500));
            return r != 0 ? r : meanOf(now(), beam, oddsOf(beam, year)).told(upper);
        }

        private Part worthOf(Reckoned n, int beam, int tool, BigInteger[] odds) {
            Part worth = meanOf(n, beam, odds);
            for (int outcome = 0; outcome <= 1; outcome++) {
                BigInteger[] behind = timesLook(odds, tool, outcome);
                if (together(behind).signum() == 0) continue;
                Part comes = new Part(together(behind), together(odds).multiply(BigInteger.valueOf(9)));
                worth = worth.less(comes.times(meanOf(n, beam, behind)));
            }
            return worth;
        }

        long worth(int beam, int tool, int year, boolean upper) {
            if (!isBeam(beam) || not(tool, 0, 3)) return UNKNOWN;
            long r = refused(beam, not(year, 0, 500));
            return r != 0 ? r : worthOf(now(), beam, tool, oddsOf(beam, year)).told(upper);
        }

        long bestLook(int year) {
            if (not(year, 0, 500)) return OUTSIDE;
            Reckoned n = now();
            long found = NONE;
            Part most = Part.of(0);
            for (int i = 0; i < beams.size(); i++) {
                for (int tool = 0; tool < 4 && !isDown(i, fallen()); tool++) {
                    Part w = worthOf(n, i, tool, oddsOf(i, year));
                    if (w.against(most) > 0) {
                        most = w;
                        found = 10 * i + tool;
                    }
                }
            }
            return found;
        }

        long count(int what) {
            if (not(what, 0, 5)) return OUTSIDE;
            int on = 0;
            for (ModelLoad l : loads) if (!l.off) on++;
            return new int[] {beams.size(), on, looks.size(), props.size(), propsSet().size(), downs(fallen())}[what];
        }
    }
}
