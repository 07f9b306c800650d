/**
 * Old beams judged: what rests on what, how each beam bends against what it bears, what is known
 * of the strength that is left, who falls with whom, and which props and looks are worth having.
 */
public final class OldBeams {
    public static final int UNKNOWN = -900001, OUTSIDE = -900002, STATE = -900003, FULL = -900004, NONE = -900009;

    private static final int KINDS = 4, BEAMS = 12, LOADS = 40, TOOLS = 4, LOOKS = 60, LOOKS_AT_BEAM = 8, PROPS = 8;
    private static final int MOST_LENGTH = 60, MOST_SIDE = 40, MOST_WEIGHT = 9999, MOST_PRICE = 9999;
    private static final int MOST_GRADE = 999, MOST_ODDS = 99, LAST_YEAR = 500;
    /** A share is told in tenths, 0 to this. */
    private static final int WHOLE_SHARE = 10, SHARES = WHOLE_SHARE + 1;
    /** How often an outcome comes is told of this many. */
    private static final int OFTEN = 9;
    private static final int GRADE = 0, ROT_DRY = 1, ROT_WET = 2, MEND = 0, LOSS = 1;
    /** No refusal is 0, so a call that may go on says 0. */
    private static final int NOT_REFUSED = 0;

    private final Frame frame = new Frame();
    private final Looks looks = new Looks();
    private final Fraction fraction = new Fraction();
    private final Fraction best = new Fraction();
    private final int[] prices = {100, 1000};
    /** The share of each beam that the call at hand reckons with. */
    private final int[] shares = new int[BEAMS];
    /** The beams that fall by themselves in the fall that is tried, in their order. */
    private final int[] fallOrder = new int[BEAMS];

    public OldBeams() {
    }

    // ---- the frame

    public int kind(int kind, int what, int v) {
        if (!within(kind, 0, KINDS - 1)) return UNKNOWN;
        if (!within(what, GRADE, ROT_WET)) return OUTSIDE;
        boolean inside = what == GRADE ? within(v, 1, MOST_GRADE) : within(v, 0, 10);
        if (!inside) return OUTSIDE;
        int was = frame.kinds[kind][what];
        frame.kinds[kind][what] = v;
        return was;
    }

    public int beam(int kind, int length, int width, int height, int year) {
        if (!within(kind, 0, KINDS - 1)) return UNKNOWN;
        if (!within(length, 2, MOST_LENGTH) || !within(width, 1, MOST_SIDE) || !within(height, 1, MOST_SIDE)) return OUTSIDE;
        // No call of the document reckons with this year, so it is tested and not kept.
        if (!isYear(year)) return OUTSIDE;
        if (frame.beamCount >= BEAMS) return FULL;
        return frame.addBeam(kind, length, width, height);
    }

    public int seat(int beam, int seat, int place, int on, int where) {
        if (!frame.hasBeam(beam)) return UNKNOWN;
        if (!within(seat, 0, 1) || !frame.hasPlace(beam, place)) return OUTSIDE;
        if (on != NONE) {
            if (!within(on, 0, beam - 1)) return STATE;
            if (!frame.hasPlace(on, where)) return OUTSIDE;
        }
        Beam b = frame.beams[beam];
        if (!b.mayPutSeat(seat, place)) return STATE;
        int was = b.place[seat];
        b.putSeat(seat, place, on, where);
        return was;
    }

    public int about(int beam, int what) {
        if (!frame.hasBeam(beam)) return UNKNOWN;
        Beam b = frame.beams[beam];
        switch (what) {
            case 0: return b.length;
            case 1: return b.place[0];
            case 2: return b.place[1];
            case 3: return b.on[0];
            case 4: return b.on[1];
            case 5: return frame.wholeStrength(beam);
            case 6: return asNumber(b.isWet);
            case 7: return asNumber(frame.isDown(beam));
            default: return OUTSIDE;
        }
    }

    public int wet(int beam, boolean wet) {
        if (!frame.hasBeam(beam)) return UNKNOWN;
        Beam b = frame.beams[beam];
        int was = asNumber(b.isWet);
        b.isWet = wet;
        return was;
    }

    public int load(int beam, int place, int weight) {
        if (!frame.hasBeam(beam)) return UNKNOWN;
        if (!frame.hasPlace(beam, place) || !within(weight, 1, MOST_WEIGHT)) return OUTSIDE;
        if (frame.loadCount >= LOADS) return FULL;
        return frame.addLoad(beam, place, weight);
    }

    public int takeOff(int load) {
        if (!within(load, 0, frame.loadCount - 1)) return UNKNOWN;
        if (!frame.loadIsOn[load]) return STATE;
        frame.removeLoad(load);
        return frame.loadWeight[load];
    }

    public int fall(int beam) {
        if (!frame.hasBeam(beam)) return UNKNOWN;
        if (isIn(frame.fallen, beam)) return STATE;
        frame.fallen |= 1 << beam;
        return Integer.bitCount(frame.downBy(frame.fallen));
    }

    public long push(int beam, int seat) {
        int refused = refusal(beam, within(seat, 0, 1));
        if (refused != NOT_REFUSED) return refused;
        frame.reckonNow();
        return frame.beams[beam].push[seat];
    }

    public long bending(int beam, int place) {
        int refused = refusal(beam, frame.hasPlace(beam, place));
        if (refused != NOT_REFUSED) return refused;
        frame.reckonNow();
        return frame.beams[beam].bendingAt(place);
    }

    public long greatest(int beam, boolean place) {
        int refused = refusal(beam, true);
        if (refused != NOT_REFUSED) return refused;
        frame.reckonNow();
        Beam b = frame.beams[beam];
        return place ? b.greatestPlace : b.greatestBending;
    }

    public int lifts(int beam) {
        int refused = refusal(beam, true);
        if (refused != NOT_REFUSED) return refused;
        frame.reckonNow();
        return asNumber(frame.beams[beam].isLifted());
    }

    public int holds(int beam, int share) {
        int refused = refusal(beam, within(share, 0, WHOLE_SHARE));
        if (refused != NOT_REFUSED) return refused;
        frame.reckonNow();
        return asNumber(frame.holdsWith(beam, share));
    }

    public int needs(int beam) {
        int refused = refusal(beam, true);
        if (refused != NOT_REFUSED) return refused;
        frame.reckonNow();
        for (int t = 0; t < SHARES; t++) {
            if (frame.holdsWith(beam, t)) return t;
        }
        return NONE;
    }

    // ---- shares, looks

    public int weight(int beam, int share, int v) {
        if (!frame.hasBeam(beam)) return UNKNOWN;
        if (!within(share, 0, WHOLE_SHARE) || !within(v, 0, MOST_ODDS)) return OUTSIDE;
        if (looks.countAt(beam) > 0 || !looks.anyWeightLeft(beam, share, v)) return STATE;
        int was = looks.weights[beam][share];
        looks.weights[beam][share] = v;
        return was;
    }

    public int tool(int tool, int share, int v) {
        if (!isTool(tool)) return UNKNOWN;
        if (!within(share, 0, WHOLE_SHARE) || !within(v, 0, OFTEN)) return OUTSIDE;
        if (looks.isUsed(tool)) return STATE;
        int was = looks.tools[tool][share];
        looks.tools[tool][share] = v;
        return was;
    }

    public int look(int beam, int tool, int outcome, int year) {
        if (!frame.hasBeam(beam) || !isTool(tool)) return UNKNOWN;
        if (!within(outcome, 0, 1) || !isYear(year)) return OUTSIDE;
        if (year < looks.lastYear()) return STATE;
        if (looks.lookCount >= LOOKS || looks.countAt(beam) >= LOOKS_AT_BEAM) return FULL;
        return looks.addLook(beam, tool, outcome, year);
    }

    public long odds(int beam, int share, int year) {
        if (!frame.hasBeam(beam)) return UNKNOWN;
        if (!within(share, 0, WHOLE_SHARE) || !isYear(year)) return OUTSIDE;
        looks.reckonOdds(beam, year);
        return looks.known[share];
    }

    public int quarrel(int beam, int year) {
        if (!frame.hasBeam(beam)) return UNKNOWN;
        if (!isYear(year)) return OUTSIDE;
        return looks.reckonOdds(beam, year);
    }

    public int share(int beam, int year, int later, boolean most) {
        if (!frame.hasBeam(beam)) return UNKNOWN;
        if (!areYears(year, later)) return OUTSIDE;
        return frame.shareLeft(beam, looks.knownShare(beam, year, most), later - year);
    }

    public int stands(int year, int later, boolean maybe) {
        if (!areYears(year, later)) return OUTSIDE;
        takeShares(year, maybe);
        frame.reckonNow();
        return asNumber(standsAfter(later - year));
    }

    public int until(int year, boolean maybe) {
        if (!isYear(year)) return OUTSIDE;
        takeShares(year, maybe);
        frame.reckonNow();
        int latest = NONE;
        for (int y = year; y <= LAST_YEAR; y++) {
            if (!standsAfter(y - year)) break;
            latest = y;
        }
        return latest;
    }

    public long chance(int beam, int year, boolean upper) {
        int refused = refusal(beam, isYear(year));
        if (refused != NOT_REFUSED) return refused;
        frame.reckonNow();
        looks.reckonOdds(beam, year);
        putChance(beam);
        return fraction.part(upper);
    }

    public int weakest(int year) {
        if (!isYear(year)) return OUTSIDE;
        frame.reckonNow();
        int weakest = NONE;
        for (int i = 0; i < frame.beamCount; i++) {
            if (frame.isDown(i)) continue;
            looks.reckonOdds(i, year);
            putChance(i);
            if (weakest == NONE || fraction.isLessThan(best)) {
                weakest = i;
                best.copy(fraction);
            }
        }
        return weakest;
    }

    // ---- falls, props

    public int chain(int beam, int year) {
        int refused = refusal(beam, isYear(year));
        if (refused != NOT_REFUSED) return refused;
        takeShares(year, false);
        frame.tryFall(beam, shares, fallOrder);
        return Integer.bitCount(frame.triedDown);
    }

    public int chainAt(int beam, int year, int i) {
        int refused = refusal(beam, isYear(year));
        if (refused != NOT_REFUSED) return refused;
        takeShares(year, false);
        int many = frame.tryFall(beam, shares, fallOrder);
        return within(i, 0, many - 1) ? fallOrder[i] : NONE;
    }

    public int prop(int beam, int place, int push) {
        if (!frame.hasBeam(beam)) return UNKNOWN;
        if (!frame.hasPlace(beam, place) || !within(push, 1, MOST_WEIGHT)) return OUTSIDE;
        if (frame.propCount >= PROPS) return FULL;
        return frame.addProp(beam, place, push);
    }

    public int set(int prop, boolean set) {
        if (!within(prop, 0, frame.propCount - 1)) return UNKNOWN;
        int bit = Frame.propBit(prop);
        int was = asNumber((frame.setProps & bit) != 0);
        frame.setProps = set ? frame.setProps | bit : frame.setProps & ~bit;
        return was;
    }

    public int fewest(int year) {
        if (!isYear(year)) return OUTSIDE;
        takeShares(year, false);
        int props = frame.fewestProps(shares);
        return props == NONE ? NONE : Integer.bitCount(props);
    }

    public int needed(int year, int i) {
        if (!isYear(year)) return OUTSIDE;
        takeShares(year, false);
        int props = frame.fewestProps(shares);
        if (props == NONE) return NONE;
        int before = 0;
        for (int p = 0; p < PROPS; p++) {
            if ((props & Frame.propBit(p)) == 0) continue;
            if (before == i) return p;
            before++;
        }
        return NONE;
    }

    // ---- choices

    public int price(int what, int v) {
        if (!within(what, MEND, LOSS) || !within(v, 0, MOST_PRICE)) return OUTSIDE;
        int was = prices[what];
        prices[what] = v;
        return was;
    }

    public long mean(int beam, int year, boolean upper) {
        int refused = refusal(beam, isYear(year));
        if (refused != NOT_REFUSED) return refused;
        frame.reckonNow();
        looks.reckonOdds(beam, year);
        putMean(beam);
        return fraction.part(upper);
    }

    public long worth(int beam, int tool, int year, boolean upper) {
        if (!isTool(tool)) return UNKNOWN;
        int refused = refusal(beam, isYear(year));
        if (refused != NOT_REFUSED) return refused;
        frame.reckonNow();
        looks.reckonOdds(beam, year);
        putWorth(beam, tool);
        return fraction.part(upper);
    }

    public int bestLook(int year) {
        if (!isYear(year)) return OUTSIDE;
        frame.reckonNow();
        int look = NONE;
        best.put(0, 1);
        for (int i = 0; i < frame.beamCount; i++) {
            if (frame.isDown(i)) continue;
            looks.reckonOdds(i, year);
            for (int tool = 0; tool < TOOLS; tool++) {
                putWorth(i, tool);
                if (best.isLessThan(fraction)) {
                    look = 10 * i + tool;
                    best.copy(fraction);
                }
            }
        }
        return look;
    }

    public int count(int what) {
        switch (what) {
            case 0: return frame.beamCount;
            case 1: return frame.loadsOn();
            case 2: return looks.lookCount;
            case 3: return frame.propCount;
            case 4: return Integer.bitCount(frame.setProps);
            case 5: return Integer.bitCount(frame.downBy(frame.fallen));
            default: return OUTSIDE;
        }
    }

    // ---- what the calls have in common

    private static boolean within(int v, int least, int most) {
        return v >= least && v <= most;
    }

    private static boolean isYear(int year) {
        return within(year, 0, LAST_YEAR);
    }

    private static boolean areYears(int year, int later) {
        return isYear(year) && isYear(later) && later >= year;
    }

    private static boolean isTool(int tool) {
        return within(tool, 0, TOOLS - 1);
    }

    private static boolean isIn(int beams, int beam) {
        return (beams >> beam & 1) != 0;
    }

    private static int asNumber(boolean yes) {
        return yes ? 1 : 0;
    }

    /** The order that most calls on one beam name: UNKNOWN, OUTSIDE, then STATE for one that is down. */
    private int refusal(int beam, boolean inside) {
        if (!frame.hasBeam(beam)) return UNKNOWN;
        if (!inside) return OUTSIDE;
        if (frame.isDown(beam)) return STATE;
        return NOT_REFUSED;
    }

    private void takeShares(int year, boolean most) {
        for (int i = 0; i < frame.beamCount; i++) {
            shares[i] = looks.knownShare(i, year, most);
        }
    }

    /** Whether the frame, as it was last reckoned, stands with the shares that were taken, after so many years of rot. */
    private boolean standsAfter(int years) {
        if (frame.downBy(frame.fallen) != 0) return false;
        for (int i = 0; i < frame.beamCount; i++) {
            if (!frame.holdsWith(i, frame.shareLeft(i, shares[i], years))) return false;
        }
        return true;
    }

    /** The odds, as they were last reckoned, of the shares with which a beam does not hold. */
    private long lostOdds(int beam) {
        long lost = 0;
        for (int t = 0; t < SHARES; t++) {
            if (!frame.holdsWith(beam, t)) lost += looks.known[t];
        }
        return lost;
    }

    private void putChance(int beam) {
        long all = looks.allOdds();
        fraction.put(all - lostOdds(beam), all);
    }

    private void putMean(int beam) {
        long all = looks.allOdds();
        fraction.put(cost(all, lostOdds(beam)), all);
    }

    /** All costs are kept over nine times all odds, as each look splits the odds by ninths. */
    private void putWorth(int beam, int tool) {
        long allByOne = 0;
        long lostByOne = 0;
        for (int t = 0; t < SHARES; t++) {
            long byOne = looks.known[t] * looks.tools[tool][t];
            allByOne += byOne;
            if (!frame.holdsWith(beam, t)) lostByOne += byOne;
        }
        long all = looks.allOdds();
        long lost = lostOdds(beam);
        long ahead = OFTEN * cost(all, lost);
        long behind = cost(allByOne, lostByOne) + cost(OFTEN * all - allByOne, OFTEN * lost - lostByOne);
        fraction.put(ahead - behind, OFTEN * all);
    }

    /** The mean cost times all odds: so it stays whole, and an outcome that never comes costs nothing. */
    private long cost(long all, long lost) {
        return Math.min(prices[MEND] * all, prices[LOSS] * lost);
    }

    /** A beam, and what was last reckoned for it. */
    private static final class Beam {
        int kind;
        int length;
        int width;
        int height;
        boolean isWet;
        final int[] place = new int[2];
        final int[] on = new int[2];
        final int[] where = new int[2];
        /** What the loads weigh at each place; kept, so that each of many reckonings starts from a copy. */
        final long[] loaded = new long[MOST_LENGTH + 1];
        final long[] forces = new long[MOST_LENGTH + 1];
        final long[] push = new long[2];
        long greatestBending;
        int greatestPlace;

        void begin(int newKind, int newLength, int newWidth, int newHeight) {
            kind = newKind;
            length = newLength;
            width = newWidth;
            height = newHeight;
            putSeat(0, 0, NONE, 0);
            putSeat(1, newLength, NONE, 0);
        }

        boolean mayPutSeat(int seat, int newPlace) {
            int first = seat == 0 ? newPlace : place[0];
            int second = seat == 1 ? newPlace : place[1];
            return 3 * (second - first) >= length;
        }

        void putSeat(int seat, int newPlace, int newOn, int newWhere) {
            place[seat] = newPlace;
            on[seat] = newOn;
            where[seat] = newOn == NONE ? 0 : newWhere;
        }

        void takeLoads() {
            System.arraycopy(loaded, 0, forces, 0, length + 1);
        }

        void reckonPushes() {
            int apart = place[1] - place[0];
            if (apart <= 0) return;
            long all = 0;
            long turning = 0;
            for (int x = 0; x <= length; x++) {
                all += forces[x];
                turning += forces[x] * (x - place[0]);
            }
            push[1] = Math.floorDiv(turning, (long) apart);
            push[0] = all - push[1];
        }

        /** Goes along the beam once: the bending grows at each step by all that pushes so far. */
        void reckonGreatest() {
            greatestBending = 0;
            greatestPlace = 0;
            long bent = 0;
            long pushing = 0;
            for (int x = 0; x <= length; x++) {
                long size = Math.abs(bent);
                if (size > greatestBending) {
                    greatestBending = size;
                    greatestPlace = x;
                }
                pushing += forces[x];
                if (x == place[0]) pushing -= push[0];
                if (x == place[1]) pushing -= push[1];
                bent += pushing;
            }
        }

        long bendingAt(int x) {
            long bent = 0;
            for (int p = 0; p < x && p <= length; p++) {
                bent += forces[p] * (x - p);
            }
            for (int seat = 0; seat < 2; seat++) {
                if (place[seat] < x) bent -= push[seat] * (x - place[seat]);
            }
            return bent;
        }

        boolean isLifted() {
            return push[0] < 0 || push[1] < 0;
        }
    }

    /** The kinds, the beams, and what loads and props do to them. Sets of beams and of props are the bits of a number. */
    private static final class Frame {
        final int[][] kinds = new int[KINDS][3];
        /** Filled in the constructor, so that no place of it is ever null. */
        final Beam[] beams = new Beam[BEAMS];
        int beamCount;
        int fallen;
        final int[] loadBeam = new int[LOADS];
        final int[] loadPlace = new int[LOADS];
        final int[] loadWeight = new int[LOADS];
        final boolean[] loadIsOn = new boolean[LOADS];
        int loadCount;
        final int[] propBeam = new int[PROPS];
        final int[] propPlace = new int[PROPS];
        final int[] propPush = new int[PROPS];
        int propCount;
        int setProps;
        /** What is down behind the fall that was tried last. */
        int triedDown;

        Frame() {
            for (int k = 0; k < KINDS; k++) {
                kinds[k][GRADE] = 100;
                kinds[k][ROT_WET] = 1;
            }
            for (int i = 0; i < BEAMS; i++) {
                beams[i] = new Beam();
            }
        }

        boolean hasBeam(int beam) {
            return within(beam, 0, beamCount - 1);
        }

        boolean hasPlace(int beam, int place) {
            return hasBeam(beam) && within(place, 0, beams[beam].length);
        }

        int addBeam(int kind, int length, int width, int height) {
            int number = beamCount;
            beams[number].begin(kind, length, width, height);
            beamCount = number + 1;
            return number;
        }

        int addLoad(int beam, int place, int weight) {
            int number = loadCount;
            loadBeam[number] = beam;
            loadPlace[number] = place;
            loadWeight[number] = weight;
            loadIsOn[number] = true;
            beams[beam].loaded[place] += weight;
            loadCount = number + 1;
            return number;
        }

        void removeLoad(int load) {
            loadIsOn[load] = false;
            beams[loadBeam[load]].loaded[loadPlace[load]] -= loadWeight[load];
        }

        int loadsOn() {
            int on = 0;
            for (int l = 0; l < loadCount; l++) {
                if (loadIsOn[l]) on++;
            }
            return on;
        }

        int addProp(int beam, int place, int push) {
            int number = propCount;
            propBeam[number] = beam;
            propPlace[number] = place;
            propPush[number] = push;
            propCount = number + 1;
            return number;
        }

        /** The first place has the highest bit, so that of as many props the greatest number is the first by places. */
        static int propBit(int prop) {
            return 1 << (PROPS - 1 - prop);
        }

        /** Which are down if those of a set have fallen; what a beam rests on has a lesser number, so one pass does. */
        int downBy(int fallenBeams) {
            int down = fallenBeams;
            for (int i = 0; i < beamCount; i++) {
                Beam b = beams[i];
                if (restsOn(b.on[0], down) || restsOn(b.on[1], down)) down |= 1 << i;
            }
            return down;
        }

        private static boolean restsOn(int on, int down) {
            return on != NONE && isIn(down, on);
        }

        boolean isDown(int beam) {
            return isIn(downBy(fallen), beam);
        }

        void reckonNow() {
            reckonAll(downBy(fallen), setProps);
        }

        private void reckonAll(int down, int props) {
            spreadForces(props);
            for (int i = beamCount - 1; i >= 0; i--) {
                if (!isIn(down, i)) reckonBeam(beams[i]);
            }
        }

        private void spreadForces(int props) {
            for (int i = 0; i < beamCount; i++) {
                beams[i].takeLoads();
            }
            for (int p = 0; p < propCount; p++) {
                if ((props & propBit(p)) != 0) beams[propBeam[p]].forces[propPlace[p]] -= propPush[p];
            }
        }

        /** To be called from the greatest number down, as what rests on a beam must have pushed before. */
        private void reckonBeam(Beam b) {
            b.reckonPushes();
            b.reckonGreatest();
            for (int seat = 0; seat < 2; seat++) {
                int on = b.on[seat];
                if (hasBeam(on)) beams[on].forces[b.where[seat]] += b.push[seat];
            }
        }

        int wholeStrength(int beam) {
            Beam b = beams[beam];
            return kinds[b.kind][GRADE] * b.width * b.height * b.height / 100;
        }

        boolean holdsWith(int beam, int share) {
            Beam b = beams[beam];
            return !b.isLifted() && b.greatestBending <= wholeStrength(beam) * share / WHOLE_SHARE;
        }

        int shareLeft(int beam, int share, int years) {
            Beam b = beams[beam];
            int rot = kinds[b.kind][b.isWet ? ROT_WET : ROT_DRY];
            return Math.max(0, share - years * rot / 10);
        }

        /** Answers how many fall by themselves, and puts them into a row; the state is left as it was. */
        int tryFall(int beam, int[] shares, int[] order) {
            int tried = fallen;
            int next = beam;
            int many = 0;
            while (many < BEAMS && next != NONE) {
                order[many] = next;
                many++;
                tried |= 1 << next;
                triedDown = downBy(tried);
                next = firstNotHolding(triedDown, shares);
            }
            return many;
        }

        private int firstNotHolding(int down, int[] shares) {
            reckonAll(down, setProps);
            for (int i = 0; i < beamCount; i++) {
                if (!isIn(down, i) && !holdsWith(i, shares[i])) return i;
            }
            return NONE;
        }

        int fewestProps(int[] shares) {
            if (downBy(fallen) != 0) return NONE;
            int all = (1 << PROPS) - 1;
            int missing = all >> propCount;
            for (int many = 0; many <= propCount; many++) {
                for (int props = all; props >= 0; props--) {
                    if (Integer.bitCount(props) != many || (props & missing) != 0) continue;
                    if (standsWith(props, shares)) return props;
                }
            }
            return NONE;
        }

        /** For a frame in which none is down; ends at the first that does not hold, as many sets of props are tried. */
        private boolean standsWith(int props, int[] shares) {
            spreadForces(props);
            for (int i = beamCount - 1; i >= 0; i--) {
                reckonBeam(beams[i]);
                if (!holdsWith(i, shares[i])) return false;
            }
            return true;
        }
    }

    /** What is told of the shares of strength: weights, tools and looks, and the odds that follow. */
    private static final class Looks {
        final int[][] weights = new int[BEAMS][SHARES];
        final int[][] tools = new int[TOOLS][SHARES];
        final int[] lookBeam = new int[LOOKS];
        final int[] lookTool = new int[LOOKS];
        final int[] lookOutcome = new int[LOOKS];
        final int[] lookYear = new int[LOOKS];
        int lookCount;
        /** The odds that were reckoned last. */
        final long[] known = new long[SHARES];
        private final long[] next = new long[SHARES];

        Looks() {
            for (int i = 0; i < BEAMS; i++) {
                for (int t = 0; t < SHARES; t++) {
                    weights[i][t] = 1;
                }
            }
        }

        boolean anyWeightLeft(int beam, int share, int v) {
            for (int t = 0; t < SHARES; t++) {
                int weight = t == share ? v : weights[beam][t];
                if (weight > 0) return true;
            }
            return false;
        }

        int countAt(int beam) {
            int many = 0;
            for (int l = 0; l < lookCount; l++) {
                if (lookBeam[l] == beam) many++;
            }
            return many;
        }

        boolean isUsed(int tool) {
            for (int l = 0; l < lookCount; l++) {
                if (lookTool[l] == tool) return true;
            }
            return false;
        }

        int lastYear() {
            return lookCount > 0 ? lookYear[lookCount - 1] : 0;
        }

        int addLook(int beam, int tool, int outcome, int year) {
            int number = lookCount;
            lookBeam[number] = beam;
            lookTool[number] = tool;
            lookOutcome[number] = outcome;
            lookYear[number] = year;
            lookCount = number + 1;
            return number;
        }

        /** Puts the odds into the row of what is known; answers the first look that quarrels, or NONE. */
        int reckonOdds(int beam, int year) {
            for (int t = 0; t < SHARES; t++) {
                known[t] = weights[beam][t];
            }
            int first = NONE;
            for (int l = 0; l < lookCount; l++) {
                if (lookBeam[l] != beam || lookYear[l] > year) continue;
                boolean counts = applyLook(lookTool[l], lookOutcome[l]);
                if (!counts && first == NONE) first = l;
            }
            return first;
        }

        /** Leaves the odds as they were, undivided too, if the look quarrels with them. */
        private boolean applyLook(int tool, int outcome) {
            long common = 0;
            for (int t = 0; t < SHARES; t++) {
                int often = tools[tool][t];
                next[t] = known[t] * (outcome == 1 ? often : OFTEN - often);
                common = Fraction.common(common, next[t]);
            }
            if (common == 0) return false;
            for (int t = 0; t < SHARES; t++) {
                known[t] = next[t] / common;
            }
            return true;
        }

        long allOdds() {
            long all = 0;
            for (int t = 0; t < SHARES; t++) {
                all += known[t];
            }
            return all;
        }

        int knownShare(int beam, int year, boolean most) {
            reckonOdds(beam, year);
            int found = 0;
            for (int t = WHOLE_SHARE; t >= 0; t--) {
                if (known[t] == 0) continue;
                found = t;
                if (most) break;
            }
            return found;
        }
    }

    /** A fraction of 0 or more, in least terms. */
    private static final class Fraction {
        /** Far above the steps that Euclid's way takes for any two longs. */
        private static final int MOST_STEPS = 200;

        private long above = 0;
        private long below = 1;

        void put(long newAbove, long newBelow) {
            long common = common(newAbove, newBelow);
            above = common == 0 ? 0 : newAbove / common;
            below = common == 0 ? 1 : newBelow / common;
        }

        void copy(Fraction other) {
            above = other.above;
            below = other.below;
        }

        long part(boolean upper) {
            return upper ? above : below;
        }

        /** Compares whole parts, then what is left turned over: cross products would not fit into a long. */
        boolean isLessThan(Fraction other) {
            long a = above;
            long b = below;
            long c = other.above;
            long d = other.below;
            for (int step = 0; step < MOST_STEPS && b > 0 && d > 0; step++) {
                boolean turned = step % 2 == 1;
                if (a / b != c / d) return turned ? a / b > c / d : a / b < c / d;
                long leftHere = a % b;
                long leftThere = c % d;
                if (leftHere == 0 || leftThere == 0) return turned ? leftHere > leftThere : leftHere < leftThere;
                a = b;
                b = leftHere;
                c = d;
                d = leftThere;
            }
            return false;
        }

        static long common(long one, long other) {
            long a = one;
            long b = other;
            for (int step = 0; step < MOST_STEPS && b != 0; step++) {
                long left = a % b;
                a = b;
                b = left;
            }
            return a;
        }
    }
}
