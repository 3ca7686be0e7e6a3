/** A catalogue of knots, and the lines that are tied with them. */
public final class KnotRack {
    private static final int BEND = 0;
    private static final int HITCH = 1;

    private static final int MAX_KNOTS = 16;
    private static final int MIN_EFFICIENCY = 10;
    private static final int MAX_EFFICIENCY = 100;
    private static final int MIN_CROSSINGS = 1;
    private static final int MAX_CROSSINGS = 9;

    private static final int MAX_LINES = 6;
    private static final int MAX_ROPES = 5;
    private static final int MIN_STRENGTH = 1;
    private static final int MAX_STRENGTH = 999;

    private static final int MIN_LOAD = 1;
    private static final int MAX_LOAD = 999;

    /** Stands for no knot, no place and no line. */
    private static final int NONE = -1;
    /** Stands where a load would, for a knot that does not spill. */
    private static final int NEVER = 0;

    private static final long DIGEST_START = 2063L;
    private static final long DIGEST_FACTOR = 31L;

    /** One element for each knot; those from knotCount on are not in use. */
    private final int[] kinds;
    private final int[] efficiencies;
    private final int[] crossingCounts;
    private final int[] spillLoads;
    private final int[] spillTargets;
    private int knotCount;

    /** One element for each line; those from lineCount on are not in use. */
    private final int[] ropeCounts;
    private int lineCount;

    /** MAX_ROPES elements for each line, at slot(); those from its ropeCounts on are not in use. */
    private final int[] tiedKnots;
    private final int[] ropeStrengths;

    public KnotRack() {
        kinds = new int[MAX_KNOTS];
        efficiencies = new int[MAX_KNOTS];
        crossingCounts = new int[MAX_KNOTS];
        spillLoads = new int[MAX_KNOTS];
        spillTargets = new int[MAX_KNOTS];
        knotCount = 0;
        ropeCounts = new int[MAX_LINES];
        lineCount = 0;
        tiedKnots = new int[MAX_LINES * MAX_ROPES];
        ropeStrengths = new int[MAX_LINES * MAX_ROPES];
    }

    // ---- the catalogue

    public int addKnot(int kind, int efficiency, int crossings)
            throws IndexOutOfBoundsException, IllegalArgumentException, IllegalStateException {
        checkKind(kind);
        if (efficiency < MIN_EFFICIENCY || efficiency > MAX_EFFICIENCY) {
            throw new IllegalArgumentException("efficiency is not 10 to 100");
        }
        if (crossings < MIN_CROSSINGS || crossings > MAX_CROSSINGS) {
            throw new IllegalArgumentException("crossings is not 1 to 9");
        }
        if (knotCount >= MAX_KNOTS) {
            throw new IllegalStateException("there are 16 knots");
        }
        int knot = knotCount;
        kinds[knot] = kind;
        efficiencies[knot] = efficiency;
        crossingCounts[knot] = crossings;
        spillLoads[knot] = NEVER;
        spillTargets[knot] = NONE;
        knotCount = knot + 1;
        return knot;
    }

    public int setSpill(int knot, int load, int into)
            throws IndexOutOfBoundsException, IllegalArgumentException {
        checkKnot(knot);
        checkLoad(load);
        if (into < NONE || into >= knot) {
            throw new IllegalArgumentException("into is not -1 and not the number of a knot ahead of this one");
        }
        if (into != NONE && kinds[into] != kinds[knot]) {
            throw new IllegalArgumentException("into is of another kind");
        }
        int before = spillLoads[knot];
        spillLoads[knot] = load;
        spillTargets[knot] = into;
        return before;
    }

    // ---- lines

    public int tie(int hitch, int strength)
            throws IndexOutOfBoundsException, IllegalArgumentException, IllegalStateException {
        checkKnot(hitch);
        checkOfKind(hitch, HITCH);
        checkStrength(strength);
        if (lineCount >= MAX_LINES) {
            throw new IllegalStateException("there are 6 lines");
        }
        int line = lineCount;
        lineCount = line + 1;
        ropeCounts[line] = 0;
        appendRope(line, hitch, strength);
        return line;
    }

    public int join(int line, int bend, int strength)
            throws IndexOutOfBoundsException, IllegalArgumentException, IllegalStateException {
        checkLine(line);
        checkKnot(bend);
        checkOfKind(bend, BEND);
        checkStrength(strength);
        checkNotGone(line);
        if (ropeCounts[line] >= MAX_ROPES) {
            throw new IllegalStateException("the line has 5 ropes");
        }
        appendRope(line, bend, strength);
        return ropeCounts[line];
    }

    public int retie(int line, int place, int knot)
            throws IndexOutOfBoundsException, IllegalArgumentException {
        checkPlace(line, place);
        checkKnot(knot);
        checkOfKind(knot, kindDueAt(place));
        int slot = slot(line, place);
        int before = tiedKnots[slot];
        tiedKnots[slot] = knot;
        return before;
    }

    public int pull(int line, int load)
            throws IndexOutOfBoundsException, IllegalArgumentException, IllegalStateException {
        checkLine(line);
        checkLoad(load);
        checkNotGone(line);
        int lost = firstPlaceToGiveWay(line, load);
        if (lost != NONE) {
            ropeCounts[line] = lost;
        }
        // Every place that is left holds the load, so each of these forms is a knot.
        for (int place = 0; place < ropeCounts[line]; place++) {
            int slot = slot(line, place);
            tiedKnots[slot] = formUnder(tiedKnots[slot], load);
        }
        return lost;
    }

    // ---- what knots are

    public int knots() {
        return knotCount;
    }

    public int knotsOf(int kind) throws IndexOutOfBoundsException {
        checkKind(kind);
        return countOfKind(kind);
    }

    public int kindOf(int knot) throws IndexOutOfBoundsException {
        checkKnot(knot);
        return kinds[knot];
    }

    public int efficiencyOf(int knot) throws IndexOutOfBoundsException {
        checkKnot(knot);
        return efficiencies[knot];
    }

    public int crossingsOf(int knot) throws IndexOutOfBoundsException {
        checkKnot(knot);
        return crossingCounts[knot];
    }

    public int spillsAt(int knot) throws IndexOutOfBoundsException {
        checkKnot(knot);
        return spillLoads[knot];
    }

    public int spillsInto(int knot) throws IndexOutOfBoundsException {
        checkKnot(knot);
        return spillTargets[knot];
    }

    public int rankOf(int knot) throws IndexOutOfBoundsException {
        checkKnot(knot);
        return rankInKind(knot);
    }

    public int knotAt(int kind, int rank) throws IndexOutOfBoundsException {
        checkKind(kind);
        int knot = knotWithRank(kind, rank);
        if (knot == NONE) {
            throw new IndexOutOfBoundsException("there is no such rank");
        }
        return knot;
    }

    // ---- forms

    public int formOf(int knot, int load)
            throws IndexOutOfBoundsException, IllegalArgumentException {
        checkKnot(knot);
        checkLoad(load);
        return formUnder(knot, load);
    }

    public int spills(int knot, int load)
            throws IndexOutOfBoundsException, IllegalArgumentException {
        checkKnot(knot);
        checkLoad(load);
        int form = knot;
        int count = 0;
        while (count < MAX_KNOTS && spillsUnder(form, load)) {
            form = spillTargets[form];
            count++;
        }
        return count;
    }

    public int fallsApartAt(int knot) throws IndexOutOfBoundsException {
        checkKnot(knot);
        int form = knot;
        int greatest = NEVER;
        for (int step = 0; step < MAX_KNOTS && isKnot(form); step++) {
            if (spillLoads[form] == NEVER) {
                return NEVER;
            }
            greatest = Math.max(greatest, spillLoads[form]);
            form = spillTargets[form];
        }
        return greatest;
    }

    // ---- what lines are

    public int lines() {
        return lineCount;
    }

    public int ropesOf(int line) throws IndexOutOfBoundsException {
        checkLine(line);
        return ropeCounts[line];
    }

    public int knotOf(int line, int place) throws IndexOutOfBoundsException {
        checkPlace(line, place);
        return tiedKnots[slot(line, place)];
    }

    public int strengthAt(int line, int place) throws IndexOutOfBoundsException {
        checkPlace(line, place);
        return currentStrength(line, place);
    }

    public int weakestPlace(int line) throws IndexOutOfBoundsException {
        checkLine(line);
        int weakest = NONE;
        int least = Integer.MAX_VALUE;
        for (int place = 0; place < ropeCounts[line]; place++) {
            int strength = currentStrength(line, place);
            if (strength < least) {
                weakest = place;
                least = strength;
            }
        }
        return weakest;
    }

    // ---- what would be

    public boolean holds(int line, int load)
            throws IndexOutOfBoundsException, IllegalArgumentException {
        checkLine(line);
        checkLoad(load);
        return !isGone(line) && firstPlaceToGiveWay(line, load) == NONE;
    }

    public int holdsUpTo(int line) throws IndexOutOfBoundsException {
        checkLine(line);
        return loadHeldWith(line, NONE, NONE);
    }

    public int wouldGiveWay(int line, int load)
            throws IndexOutOfBoundsException, IllegalArgumentException {
        checkLine(line);
        checkLoad(load);
        return firstPlaceToGiveWay(line, load);
    }

    public int bestKnot(int line, int place) throws IndexOutOfBoundsException {
        checkPlace(line, place);
        int kind = kindDueAt(place);
        int count = countOfKind(kind);
        int best = NONE;
        int greatest = NONE;
        for (int rank = 0; rank < count; rank++) {
            int knot = knotWithRank(kind, rank);
            int load = loadHeldWith(line, place, knot);
            if (load > greatest) {
                best = knot;
                greatest = load;
            }
        }
        return best;
    }

    public int strongestLine() {
        int strongest = NONE;
        int greatest = NONE;
        for (int line = 0; line < lineCount; line++) {
            int load = holdsUpTo(line);
            if (load > greatest) {
                strongest = line;
                greatest = load;
            }
        }
        return strongest;
    }

    public double meanEfficiency() {
        if (knotCount == 0) {
            return 0.0;
        }
        int sum = 0;
        for (int knot = 0; knot < knotCount; knot++) {
            sum += efficiencies[knot];
        }
        return (double) sum / (double) knotCount;
    }

    public long digest() {
        long d = DIGEST_START;
        d = digestWith(d, knotCount);
        d = digestWith(d, lineCount);
        d = digestWith(d, strongestLine());
        for (int knot = 0; knot < knotCount; knot++) {
            d = digestWithKnot(d, knot);
        }
        for (int line = 0; line < lineCount; line++) {
            d = digestWithLine(d, line);
        }
        return d;
    }

    private long digestWithKnot(long start, int knot) {
        long d = start;
        d = digestWith(d, kindOf(knot));
        d = digestWith(d, efficiencyOf(knot));
        d = digestWith(d, crossingsOf(knot));
        d = digestWith(d, spillsAt(knot));
        d = digestWith(d, spillsInto(knot));
        d = digestWith(d, rankOf(knot));
        return digestWith(d, fallsApartAt(knot));
    }

    private long digestWithLine(long start, int line) {
        long d = start;
        d = digestWith(d, ropesOf(line));
        d = digestWith(d, holdsUpTo(line));
        d = digestWith(d, weakestPlace(line));
        for (int place = 0; place < ropeCounts[line]; place++) {
            d = digestWith(d, knotOf(line, place));
            d = digestWith(d, strengthAt(line, place));
        }
        return d;
    }

    private static long digestWith(long d, int x) {
        return d * DIGEST_FACTOR + x;
    }

    // ---- what is asked before a call is answered

    private static void checkKind(int kind) throws IndexOutOfBoundsException {
        if (kind != BEND && kind != HITCH) {
            throw new IndexOutOfBoundsException("kind is not 0 or 1");
        }
    }

    private void checkKnot(int knot) throws IndexOutOfBoundsException {
        if (!isKnot(knot)) {
            throw new IndexOutOfBoundsException("there is no such knot");
        }
    }

    /** The knot has to be one of the catalogue. */
    private void checkOfKind(int knot, int kind) throws IllegalArgumentException {
        if (kinds[knot] != kind) {
            throw new IllegalArgumentException("the knot is of the other kind");
        }
    }

    private static void checkLoad(int load) throws IllegalArgumentException {
        if (load < MIN_LOAD || load > MAX_LOAD) {
            throw new IllegalArgumentException("load is not 1 to 999");
        }
    }

    private static void checkStrength(int strength) throws IllegalArgumentException {
        if (strength < MIN_STRENGTH || strength > MAX_STRENGTH) {
            throw new IllegalArgumentException("strength is not 1 to 999");
        }
    }

    private void checkLine(int line) throws IndexOutOfBoundsException {
        if (line < 0 || line >= lineCount) {
            throw new IndexOutOfBoundsException("there is no such line");
        }
    }

    private void checkPlace(int line, int place) throws IndexOutOfBoundsException {
        checkLine(line);
        if (place < 0 || place >= ropeCounts[line]) {
            throw new IndexOutOfBoundsException("the line has no such place");
        }
    }

    private void checkNotGone(int line) throws IllegalStateException {
        if (isGone(line)) {
            throw new IllegalStateException("the line is gone");
        }
    }

    // ---- knots; the callers have checked their arguments, here and below

    private boolean isKnot(int knot) {
        return knot >= 0 && knot < knotCount;
    }

    private int countOfKind(int kind) {
        int count = 0;
        for (int knot = 0; knot < knotCount; knot++) {
            if (kinds[knot] == kind) {
                count++;
            }
        }
        return count;
    }

    private int rankInKind(int knot) {
        int rank = 0;
        for (int other = 0; other < knotCount; other++) {
            if (kinds[other] == kinds[knot] && isAheadOf(other, knot)) {
                rank++;
            }
        }
        return rank;
    }

    private boolean isAheadOf(int one, int other) {
        if (efficiencies[one] != efficiencies[other]) {
            return efficiencies[one] > efficiencies[other];
        }
        if (crossingCounts[one] != crossingCounts[other]) {
            return crossingCounts[one] < crossingCounts[other];
        }
        return one < other;
    }

    private int knotWithRank(int kind, int rank) {
        for (int knot = 0; knot < knotCount; knot++) {
            if (kinds[knot] == kind && rankInKind(knot) == rank) {
                return knot;
            }
        }
        return NONE;
    }

    private boolean spillsUnder(int form, int load) {
        return isKnot(form) && spillLoads[form] != NEVER && spillLoads[form] <= load;
    }

    private int formUnder(int knot, int load) {
        int form = knot;
        for (int step = 0; step < MAX_KNOTS && spillsUnder(form, load); step++) {
            form = spillTargets[form];
        }
        return form;
    }

    // ---- lines

    private static int slot(int line, int place) {
        return line * MAX_ROPES + place;
    }

    private static int kindDueAt(int place) {
        return place == 0 ? HITCH : BEND;
    }

    private boolean isGone(int line) {
        return ropeCounts[line] == 0;
    }

    private void appendRope(int line, int knot, int strength) {
        int slot = slot(line, ropeCounts[line]);
        tiedKnots[slot] = knot;
        ropeStrengths[slot] = strength;
        ropeCounts[line]++;
    }

    /** The strength of the place with this form there, which is a knot. */
    private int strengthWith(int line, int place, int form) {
        int rope = ropeStrengths[slot(line, place)];
        if (place > 0) {
            rope = Math.min(rope, ropeStrengths[slot(line, place - 1)]);
        }
        return rope * efficiencies[form] / 100;
    }

    private int currentStrength(int line, int place) {
        return strengthWith(line, place, tiedKnots[slot(line, place)]);
    }

    private boolean placeHolds(int line, int place, int load) {
        int form = formUnder(tiedKnots[slot(line, place)], load);
        return isKnot(form) && strengthWith(line, place, form) >= load;
    }

    private int firstPlaceToGiveWay(int line, int load) {
        for (int place = 0; place < ropeCounts[line]; place++) {
            if (!placeHolds(line, place, load)) {
                return place;
            }
        }
        return NONE;
    }

    /** The greatest load up to which the line holds each one with this knot at the place; NONE for the line as it is. */
    private int loadHeldWith(int line, int place, int knot) {
        if (isGone(line)) {
            return 0;
        }
        int least = MAX_LOAD;
        for (int each = 0; each < ropeCounts[line]; each++) {
            int there = each == place ? knot : tiedKnots[slot(line, each)];
            least = Math.min(least, loadHeldAt(line, each, there));
        }
        return least;
    }

    /**
     * The greatest load up to which the place holds each one with this knot. It goes from form to form as the load
     * grows, because a form may spill into a stronger one: a place that fails under a load can hold a greater one.
     */
    private int loadHeldAt(int line, int place, int knot) {
        int held = 0;
        int form = knot;
        for (int step = 0; step < MAX_KNOTS && isKnot(form); step++) {
            int last = spillLoads[form] == NEVER ? MAX_LOAD : spillLoads[form] - 1;
            if (last > held) {
                int strength = strengthWith(line, place, form);
                if (strength < last) {
                    return Math.max(held, strength);
                }
                held = last;
            }
            form = spillTargets[form];
        }
        return held;
    }
}
