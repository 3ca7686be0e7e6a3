/** For each promise of the document: ordinary calls, the edges that it names, and wrong calls. */
public final class PromiseTest {
    private static final Class<?> INDEX = IndexOutOfBoundsException.class;
    private static final Class<?> ARGUMENT = IllegalArgumentException.class;
    private static final Class<?> STATE = IllegalStateException.class;

    private static final int[] NO_NUMBERS = {-1, Integer.MIN_VALUE, Integer.MAX_VALUE};
    private static final int[] NO_LOADS = {0, -1, 1000, Integer.MIN_VALUE, Integer.MAX_VALUE};

    private static int promise = 0;
    private static int asked = 0;
    private static int wrong = 0;

    private interface Call {
        long answer();
    }

    private static void report(String text) {
        wrong++;
        System.out.println("promise " + promise + ": " + text);
    }

    private static void due(String what, long want, Call call) {
        asked++;
        try {
            long got = call.answer();
            if (got != want) {
                report(what + " answered " + got + ", due is " + want);
            }
        } catch (RuntimeException e) {
            report(what + " threw " + e + ", due is " + want);
        }
    }

    /**
     * The very class is due: the machine's own exceptions are of classes below it. The digest holds all that shows, and
     * is one call alone: nothing is promised behind the 512th of an object.
     */
    private static void dueThrow(String what, Class<?> want, KnotRack rack, Call call) {
        asked++;
        long before = rack.digest();
        try {
            long got = call.answer();
            report(what + " answered " + got + ", due is " + want.getName());
        } catch (RuntimeException e) {
            if (e.getClass() != want) {
                report(what + " threw " + e + ", due is " + want.getName());
            }
        }
        if (rack.digest() != before) {
            report(what + " threw and changed something");
        }
    }

    private static void dueSame(String what, KnotRack rack, Call call) {
        asked++;
        long before = rack.digest();
        call.answer();
        if (rack.digest() != before) {
            report(what + " changed something");
        }
    }

    /** A hitch 0 of 100, a bend 1 of 100. */
    private static KnotRack plain() {
        KnotRack rack = new KnotRack();
        rack.addKnot(1, 100, 1);
        rack.addKnot(0, 100, 1);
        return rack;
    }

    /**
     * Hitches 0 (50), 1 (90, at 100 into 0), 2 (80, at 60 into nothing);
     * bends 3 (40), 4 (70, at 30 into 3), 5 (95, at 200 into 4), 6 (70).
     */
    private static KnotRack mixed() {
        KnotRack rack = new KnotRack();
        rack.addKnot(1, 50, 2);
        rack.addKnot(1, 90, 3);
        rack.addKnot(1, 80, 4);
        rack.addKnot(0, 40, 9);
        rack.addKnot(0, 70, 5);
        rack.addKnot(0, 95, 6);
        rack.addKnot(0, 70, 5);
        rack.setSpill(1, 100, 0);
        rack.setSpill(2, 60, -1);
        rack.setSpill(4, 30, 3);
        rack.setSpill(5, 200, 4);
        return rack;
    }

    /** Line 0 of mixed(): hitch 1, bend 5, bend 6, ropes of 300, 200, 400. */
    private static KnotRack mixedWithLine() {
        KnotRack rack = mixed();
        rack.tie(1, 300);
        rack.join(0, 5, 200);
        rack.join(0, 6, 400);
        return rack;
    }

    /** plain() with a line 0 that is gone, and a line 1 of one rope of 500. */
    private static KnotRack withGoneLine() {
        KnotRack rack = plain();
        rack.tie(0, 10);
        rack.pull(0, 11);
        rack.tie(0, 500);
        return rack;
    }

    private static void fiveRopes(KnotRack rack, int hitch, int bend) {
        int line = rack.tie(hitch, 999);
        for (int rope = 1; rope < 5; rope++) {
            rack.join(line, bend, 999);
        }
    }

    private static void newObject() {
        promise = 1;
        KnotRack rack = new KnotRack();
        due("knots()", 0, () -> rack.knots());
        due("lines()", 0, () -> rack.lines());
        due("knotsOf(0)", 0, () -> rack.knotsOf(0));
        due("knotsOf(1)", 0, () -> rack.knotsOf(1));
        due("strongestLine()", -1, () -> rack.strongestLine());
        KnotRack other = plain();
        due("knots() of another object", 0, () -> rack.knots());
        due("knots() of the one that was filled", 2, () -> other.knots());
    }

    private static void addKnot() {
        promise = 2;
        KnotRack rack = new KnotRack();
        due("addKnot(0, 10, 1)", 0, () -> rack.addKnot(0, 10, 1));
        due("addKnot(1, 100, 9)", 1, () -> rack.addKnot(1, 100, 9));
        due("spillsAt", 0, () -> rack.spillsAt(1));
        due("spillsInto", -1, () -> rack.spillsInto(1));
        for (int kind : new int[] {-1, 2, Integer.MIN_VALUE, Integer.MAX_VALUE}) {
            dueThrow("addKnot(" + kind + ", 50, 5)", INDEX, rack, () -> rack.addKnot(kind, 50, 5));
            dueThrow("addKnot(" + kind + ", 9, 0)", INDEX, rack, () -> rack.addKnot(kind, 9, 0));
        }
        for (int efficiency : new int[] {9, 101, 0, -50, Integer.MIN_VALUE, Integer.MAX_VALUE}) {
            dueThrow("addKnot(0, " + efficiency + ", 5)", ARGUMENT, rack, () -> rack.addKnot(0, efficiency, 5));
        }
        for (int crossings : new int[] {0, 10, -1, Integer.MIN_VALUE, Integer.MAX_VALUE}) {
            dueThrow("addKnot(1, 50, " + crossings + ")", ARGUMENT, rack, () -> rack.addKnot(1, 50, crossings));
        }
        for (int knot = 2; knot < 16; knot++) {
            due("addKnot(1, 50, 5)", knot, () -> rack.addKnot(1, 50, 5));
        }
        dueThrow("the 17th", STATE, rack, () -> rack.addKnot(1, 50, 5));
        dueThrow("the 17th, efficiency 9", ARGUMENT, rack, () -> rack.addKnot(1, 9, 5));
        dueThrow("the 17th, crossings 10", ARGUMENT, rack, () -> rack.addKnot(1, 50, 10));
        dueThrow("the 17th, kind 2", INDEX, rack, () -> rack.addKnot(2, 50, 5));
    }

    private static void setSpill() {
        promise = 3;
        KnotRack rack = mixed();
        due("setSpill(6, 1, 5)", 0, () -> rack.setSpill(6, 1, 5));
        due("setSpill(6, 999, -1)", 1, () -> rack.setSpill(6, 999, -1));
        due("setSpill(6, 40, 3)", 999, () -> rack.setSpill(6, 40, 3));
        due("spillsAt(6)", 40, () -> rack.spillsAt(6));
        due("spillsInto(6)", 3, () -> rack.spillsInto(6));
        due("setSpill(0, 7, -1)", 0, () -> rack.setSpill(0, 7, -1));
        for (int knot : new int[] {7, 16, -1, Integer.MIN_VALUE, Integer.MAX_VALUE}) {
            dueThrow("setSpill(" + knot + ", 5, -1)", INDEX, rack, () -> rack.setSpill(knot, 5, -1));
            dueThrow("setSpill(" + knot + ", 0, -2)", INDEX, rack, () -> rack.setSpill(knot, 0, -2));
        }
        for (int load : NO_LOADS) {
            dueThrow("setSpill(6, " + load + ", 3)", ARGUMENT, rack, () -> rack.setSpill(6, load, 3));
        }
        for (int into : new int[] {-2, 5, 6, 7, 16, Integer.MIN_VALUE, Integer.MAX_VALUE}) {
            dueThrow("setSpill(5, 50, " + into + ")", ARGUMENT, rack, () -> rack.setSpill(5, 50, into));
        }
        dueThrow("setSpill(5, 50, 2), a hitch", ARGUMENT, rack, () -> rack.setSpill(5, 50, 2));
        dueThrow("setSpill(0, 50, 0)", ARGUMENT, rack, () -> rack.setSpill(0, 50, 0));
    }

    private static void tie() {
        promise = 4;
        KnotRack rack = plain();
        due("tie(0, 1)", 0, () -> rack.tie(0, 1));
        due("tie(0, 999)", 1, () -> rack.tie(0, 999));
        due("ropesOf(1)", 1, () -> rack.ropesOf(1));
        due("knotOf(1, 0)", 0, () -> rack.knotOf(1, 0));
        due("strengthAt(1, 0)", 999, () -> rack.strengthAt(1, 0));
        for (int knot : new int[] {2, 16, -1, Integer.MIN_VALUE, Integer.MAX_VALUE}) {
            dueThrow("tie(" + knot + ", 5)", INDEX, rack, () -> rack.tie(knot, 5));
            dueThrow("tie(" + knot + ", 0)", INDEX, rack, () -> rack.tie(knot, 0));
        }
        dueThrow("tie(1, 5), a bend", ARGUMENT, rack, () -> rack.tie(1, 5));
        for (int strength : NO_LOADS) {
            dueThrow("tie(0, " + strength + ")", ARGUMENT, rack, () -> rack.tie(0, strength));
        }
        rack.pull(0, 2);
        for (int line = 2; line < 6; line++) {
            due("tie(0, 10)", line, () -> rack.tie(0, 10));
        }
        dueThrow("the 7th, with one that is gone", STATE, rack, () -> rack.tie(0, 10));
        dueThrow("the 7th, a bend", ARGUMENT, rack, () -> rack.tie(1, 10));
        dueThrow("the 7th, strength 1000", ARGUMENT, rack, () -> rack.tie(0, 1000));
        dueThrow("the 7th, no such knot", INDEX, rack, () -> rack.tie(2, 10));
    }

    private static void join() {
        promise = 5;
        KnotRack rack = withGoneLine();
        due("join(1, 1, 1)", 2, () -> rack.join(1, 1, 1));
        due("join(1, 1, 999)", 3, () -> rack.join(1, 1, 999));
        due("join(1, 1, 7)", 4, () -> rack.join(1, 1, 7));
        due("knotOf(1, 3)", 1, () -> rack.knotOf(1, 3));
        due("strengthAt(1, 3)", 7, () -> rack.strengthAt(1, 3));
        for (int line : new int[] {2, 6, -1, Integer.MIN_VALUE, Integer.MAX_VALUE}) {
            dueThrow("join(" + line + ", 1, 5)", INDEX, rack, () -> rack.join(line, 1, 5));
            dueThrow("join(" + line + ", 0, 0)", INDEX, rack, () -> rack.join(line, 0, 0));
        }
        for (int knot : new int[] {2, 16, -1, Integer.MIN_VALUE, Integer.MAX_VALUE}) {
            dueThrow("join(1, " + knot + ", 5)", INDEX, rack, () -> rack.join(1, knot, 5));
            dueThrow("join(0, " + knot + ", 0)", INDEX, rack, () -> rack.join(0, knot, 0));
        }
        dueThrow("join(1, 0, 5), a hitch", ARGUMENT, rack, () -> rack.join(1, 0, 5));
        for (int strength : NO_LOADS) {
            dueThrow("join(1, 1, " + strength + ")", ARGUMENT, rack, () -> rack.join(1, 1, strength));
            dueThrow("join(0, 1, " + strength + ")", ARGUMENT, rack, () -> rack.join(0, 1, strength));
        }
        dueThrow("join(0, 0, 5), gone and a hitch", ARGUMENT, rack, () -> rack.join(0, 0, 5));
        dueThrow("join(0, 1, 5), gone", STATE, rack, () -> rack.join(0, 1, 5));
        due("join(1, 1, 8)", 5, () -> rack.join(1, 1, 8));
        dueThrow("the 6th rope", STATE, rack, () -> rack.join(1, 1, 9));
        dueThrow("the 6th rope, a hitch", ARGUMENT, rack, () -> rack.join(1, 0, 9));
        dueThrow("the 6th rope, strength 0", ARGUMENT, rack, () -> rack.join(1, 1, 0));
        due("tie beside a full line", 2, () -> rack.tie(0, 33));
        due("ropesOf(1)", 5, () -> rack.ropesOf(1));
    }

    private static void retie() {
        promise = 6;
        KnotRack rack = mixedWithLine();
        due("retie(0, 0, 2)", 1, () -> rack.retie(0, 0, 2));
        due("retie(0, 0, 2) again", 2, () -> rack.retie(0, 0, 2));
        due("knotOf(0, 0)", 2, () -> rack.knotOf(0, 0));
        due("retie(0, 2, 3)", 6, () -> rack.retie(0, 2, 3));
        due("knotOf(0, 2)", 3, () -> rack.knotOf(0, 2));
        due("strengthAt(0, 2)", 80, () -> rack.strengthAt(0, 2));
        due("knotOf(0, 1) stays", 5, () -> rack.knotOf(0, 1));
        for (int none : new int[] {1, 6, -1, Integer.MIN_VALUE, Integer.MAX_VALUE}) {
            dueThrow("retie(" + none + ", 0, 2)", INDEX, rack, () -> rack.retie(none, 0, 2));
        }
        for (int none : new int[] {3, 5, -1, Integer.MIN_VALUE, Integer.MAX_VALUE}) {
            dueThrow("retie(0, " + none + ", 3)", INDEX, rack, () -> rack.retie(0, none, 3));
        }
        for (int none : new int[] {7, 16, -1, Integer.MIN_VALUE, Integer.MAX_VALUE}) {
            dueThrow("retie(0, 1, " + none + ")", INDEX, rack, () -> rack.retie(0, 1, none));
        }
        dueThrow("retie(0, 3, 0), no place and a hitch", INDEX, rack, () -> rack.retie(0, 3, 0));
        dueThrow("retie(0, 0, 3), a bend", ARGUMENT, rack, () -> rack.retie(0, 0, 3));
        dueThrow("retie(0, 1, 0), a hitch", ARGUMENT, rack, () -> rack.retie(0, 1, 0));
        KnotRack gone = withGoneLine();
        dueThrow("retie(0, 0, 0), gone", INDEX, gone, () -> gone.retie(0, 0, 0));
    }

    private static void pull() {
        promise = 7;
        KnotRack rack = mixedWithLine();
        due("pull(0, 99)", -1, () -> rack.pull(0, 99));
        due("knotOf(0, 0) stays", 1, () -> rack.knotOf(0, 0));
        due("pull(0, 100)", -1, () -> rack.pull(0, 100));
        due("knotOf(0, 0) has spilled", 0, () -> rack.knotOf(0, 0));
        due("knotOf(0, 1) stays", 5, () -> rack.knotOf(0, 1));
        due("pull(0, 140), as much as place 2 holds", -1, () -> rack.pull(0, 140));
        due("pull(0, 141)", 2, () -> rack.pull(0, 141));
        due("ropesOf(0)", 2, () -> rack.ropesOf(0));
        due("join(0, 6, 10) after it", 3, () -> rack.join(0, 6, 10));
        due("strengthAt(0, 2)", 7, () -> rack.strengthAt(0, 2));
        due("pull(0, 151): the first of several", 0, () -> rack.pull(0, 151));
        due("ropesOf(0)", 0, () -> rack.ropesOf(0));
        due("lines()", 1, () -> rack.lines());
        dueThrow("pull(0, 1), gone", STATE, rack, () -> rack.pull(0, 1));
        for (int load : NO_LOADS) {
            dueThrow("pull(0, " + load + "), gone", ARGUMENT, rack, () -> rack.pull(0, load));
        }

        KnotRack ahead = mixed();
        ahead.tie(1, 999);
        ahead.join(0, 4, 999);
        ahead.join(0, 6, 120);
        ahead.join(0, 5, 120);
        due("pull(0, 100): ahead of the place that gives way", 2, () -> ahead.pull(0, 100));
        due("ropesOf(0)", 2, () -> ahead.ropesOf(0));
        due("knotOf(0, 0) has spilled", 0, () -> ahead.knotOf(0, 0));
        due("knotOf(0, 1) has spilled", 3, () -> ahead.knotOf(0, 1));
        due("strengthAt(0, 1), its rope is there", 399, () -> ahead.strengthAt(0, 1));

        KnotRack apart = mixed();
        apart.tie(2, 999);
        due("pull(0, 59)", -1, () -> apart.pull(0, 59));
        due("pull(0, 60): no form", 0, () -> apart.pull(0, 60));
        due("ropesOf(0)", 0, () -> apart.ropesOf(0));

        KnotRack two = plain();
        two.tie(0, 999);
        two.tie(0, 5);
        due("pull(0, 999)", -1, () -> two.pull(0, 999));
        due("pull(1, 6)", 0, () -> two.pull(1, 6));
        due("ropesOf(0): another line stays", 1, () -> two.ropesOf(0));
        KnotRack beside = mixed();
        fiveRopes(beside, 0, 6);
        beside.tie(1, 999);
        due("pull(0, 100) at five ropes", -1, () -> beside.pull(0, 100));
        due("knotOf(1, 0): another line stays", 1, () -> beside.knotOf(1, 0));
        for (int line : new int[] {2, 6, -1, Integer.MIN_VALUE, Integer.MAX_VALUE}) {
            dueThrow("pull(" + line + ", 5)", INDEX, two, () -> two.pull(line, 5));
            dueThrow("pull(" + line + ", 0)", INDEX, two, () -> two.pull(line, 0));
        }
        for (int load : NO_LOADS) {
            dueThrow("pull(0, " + load + ")", ARGUMENT, two, () -> two.pull(0, load));
        }
    }

    private static void knots() {
        promise = 8;
        KnotRack rack = new KnotRack();
        due("knots()", 0, () -> rack.knots());
        for (int knot = 0; knot < 16; knot++) {
            rack.addKnot(knot % 2, 50, 1);
            due("knots()", knot + 1, () -> rack.knots());
        }
    }

    private static void knotsOf() {
        promise = 9;
        KnotRack rack = mixed();
        due("knotsOf(0)", 4, () -> rack.knotsOf(0));
        due("knotsOf(1)", 3, () -> rack.knotsOf(1));
        for (int kind : new int[] {-1, 2, Integer.MIN_VALUE, Integer.MAX_VALUE}) {
            dueThrow("knotsOf(" + kind + ")", INDEX, rack, () -> rack.knotsOf(kind));
        }
    }

    private static void whatKnotsAre() {
        int[] kinds = {1, 1, 1, 0, 0, 0, 0};
        int[] efficiencies = {50, 90, 80, 40, 70, 95, 70};
        int[] crossings = {2, 3, 4, 9, 5, 6, 5};
        int[] loads = {0, 100, 60, 0, 30, 200, 0};
        int[] targets = {-1, 0, -1, -1, 3, 4, -1};
        KnotRack rack = mixed();
        for (int knot = 0; knot < 7; knot++) {
            int k = knot;
            promise = 10;
            due("kindOf(" + k + ")", kinds[k], () -> rack.kindOf(k));
            promise = 11;
            due("efficiencyOf(" + k + ")", efficiencies[k], () -> rack.efficiencyOf(k));
            promise = 12;
            due("crossingsOf(" + k + ")", crossings[k], () -> rack.crossingsOf(k));
            promise = 13;
            due("spillsAt(" + k + ")", loads[k], () -> rack.spillsAt(k));
            promise = 14;
            due("spillsInto(" + k + ")", targets[k], () -> rack.spillsInto(k));
        }
        for (int none : new int[] {7, 8, 15, 16, -1, Integer.MIN_VALUE, Integer.MAX_VALUE}) {
            promise = 10;
            dueThrow("kindOf(" + none + ")", INDEX, rack, () -> rack.kindOf(none));
            promise = 11;
            dueThrow("efficiencyOf(" + none + ")", INDEX, rack, () -> rack.efficiencyOf(none));
            promise = 12;
            dueThrow("crossingsOf(" + none + ")", INDEX, rack, () -> rack.crossingsOf(none));
            promise = 13;
            dueThrow("spillsAt(" + none + ")", INDEX, rack, () -> rack.spillsAt(none));
            promise = 14;
            dueThrow("spillsInto(" + none + ")", INDEX, rack, () -> rack.spillsInto(none));
        }
    }

    private static void ranks() {
        KnotRack rack = mixed();
        rack.addKnot(0, 70, 4);
        int[] ranks = {2, 0, 1, 4, 2, 0, 3, 1};
        int[][] byRank = {{5, 7, 4, 6, 3}, {1, 2, 0}};
        promise = 15;
        for (int knot = 0; knot < ranks.length; knot++) {
            int k = knot;
            due("rankOf(" + k + ")", ranks[k], () -> rack.rankOf(k));
        }
        for (int none : new int[] {8, 16, -1, Integer.MIN_VALUE, Integer.MAX_VALUE}) {
            dueThrow("rankOf(" + none + ")", INDEX, rack, () -> rack.rankOf(none));
        }
        promise = 16;
        for (int kind = 0; kind < 2; kind++) {
            int i = kind;
            for (int rank = 0; rank < byRank[kind].length; rank++) {
                int r = rank;
                due("knotAt(" + i + ", " + r + ")", byRank[i][r], () -> rack.knotAt(i, r));
            }
        }
        dueThrow("knotAt(0, 5)", INDEX, rack, () -> rack.knotAt(0, 5));
        dueThrow("knotAt(1, 3)", INDEX, rack, () -> rack.knotAt(1, 3));
        for (int none : NO_NUMBERS) {
            dueThrow("knotAt(1, " + none + ")", INDEX, rack, () -> rack.knotAt(1, none));
            dueThrow("knotAt(" + none + ", 0)", INDEX, rack, () -> rack.knotAt(none, 0));
        }
        dueThrow("knotAt(2, 0)", INDEX, rack, () -> rack.knotAt(2, 0));
    }

    private static void formOf() {
        promise = 17;
        KnotRack rack = mixed();
        due("formOf(5, 1)", 5, () -> rack.formOf(5, 1));
        due("formOf(5, 199)", 5, () -> rack.formOf(5, 199));
        due("formOf(5, 200): through 4, which spills at less", 3, () -> rack.formOf(5, 200));
        due("formOf(4, 29)", 4, () -> rack.formOf(4, 29));
        due("formOf(4, 30)", 3, () -> rack.formOf(4, 30));
        due("formOf(6, 999): it does not spill", 6, () -> rack.formOf(6, 999));
        due("formOf(2, 59)", 2, () -> rack.formOf(2, 59));
        due("formOf(2, 60): nothing", -1, () -> rack.formOf(2, 60));
        due("formOf(2, 999)", -1, () -> rack.formOf(2, 999));
        for (int none : new int[] {7, 16, -1, Integer.MIN_VALUE, Integer.MAX_VALUE}) {
            dueThrow("formOf(" + none + ", 5)", INDEX, rack, () -> rack.formOf(none, 5));
            dueThrow("formOf(" + none + ", 0)", INDEX, rack, () -> rack.formOf(none, 0));
        }
        for (int load : NO_LOADS) {
            dueThrow("formOf(2, " + load + ")", ARGUMENT, rack, () -> rack.formOf(2, load));
        }
        KnotRack chain = chain();
        due("formOf(15, 15): a chain of 16", 0, () -> chain.formOf(15, 15));
        due("formOf(15, 16): to its end", -1, () -> chain.formOf(15, 16));
    }

    /** 16 hitches, the knot k spilling at 16 - k into the one ahead of it, 0 into nothing. */
    private static KnotRack chain() {
        KnotRack rack = new KnotRack();
        for (int knot = 0; knot < 16; knot++) {
            rack.addKnot(1, 10 + knot, 1);
            rack.setSpill(knot, 16 - knot, knot - 1);
        }
        return rack;
    }

    private static void spills() {
        promise = 18;
        KnotRack rack = mixed();
        due("spills(5, 199)", 0, () -> rack.spills(5, 199));
        due("spills(5, 200)", 2, () -> rack.spills(5, 200));
        due("spills(4, 29)", 0, () -> rack.spills(4, 29));
        due("spills(4, 30)", 1, () -> rack.spills(4, 30));
        due("spills(6, 999)", 0, () -> rack.spills(6, 999));
        due("spills(2, 60): into nothing", 1, () -> rack.spills(2, 60));
        for (int none : new int[] {7, 16, -1, Integer.MIN_VALUE, Integer.MAX_VALUE}) {
            dueThrow("spills(" + none + ", 5)", INDEX, rack, () -> rack.spills(none, 5));
            dueThrow("spills(" + none + ", 0)", INDEX, rack, () -> rack.spills(none, 0));
        }
        for (int load : NO_LOADS) {
            dueThrow("spills(2, " + load + ")", ARGUMENT, rack, () -> rack.spills(2, load));
        }
        KnotRack chain = chain();
        due("spills(15, 7)", 7, () -> chain.spills(15, 7));
        due("spills(15, 16)", 16, () -> chain.spills(15, 16));
    }

    private static void fallsApartAt() {
        promise = 19;
        KnotRack rack = mixed();
        due("fallsApartAt(2)", 60, () -> rack.fallsApartAt(2));
        due("fallsApartAt(0): it does not spill", 0, () -> rack.fallsApartAt(0));
        due("fallsApartAt(5): its chain ends in a knot", 0, () -> rack.fallsApartAt(5));
        rack.setSpill(3, 90, -1);
        due("fallsApartAt(4): the end spills later", 90, () -> rack.fallsApartAt(4));
        due("fallsApartAt(5): the end spills earlier", 200, () -> rack.fallsApartAt(5));
        KnotRack chain = chain();
        due("fallsApartAt(15): a chain of 16", 16, () -> chain.fallsApartAt(15));
        chain.setSpill(0, 999, -1);
        due("fallsApartAt(15)", 999, () -> chain.fallsApartAt(15));
        KnotRack frail = plain();
        frail.setSpill(0, 1, -1);
        due("fallsApartAt(0): under each load", 1, () -> frail.fallsApartAt(0));
        for (int none : new int[] {7, 16, -1, Integer.MIN_VALUE, Integer.MAX_VALUE}) {
            dueThrow("fallsApartAt(" + none + ")", INDEX, rack, () -> rack.fallsApartAt(none));
        }
    }

    private static void lines() {
        promise = 20;
        KnotRack rack = plain();
        due("lines()", 0, () -> rack.lines());
        rack.tie(0, 10);
        rack.tie(0, 10);
        due("lines()", 2, () -> rack.lines());
        rack.pull(0, 11);
        due("lines(), one is gone", 2, () -> rack.lines());
    }

    private static void ropesOf() {
        promise = 21;
        KnotRack rack = mixedWithLine();
        rack.tie(0, 10);
        due("ropesOf(0)", 3, () -> rack.ropesOf(0));
        due("ropesOf(1)", 1, () -> rack.ropesOf(1));
        KnotRack gone = withGoneLine();
        due("ropesOf(0), gone", 0, () -> gone.ropesOf(0));
        for (int none : new int[] {2, 5, 6, -1, Integer.MIN_VALUE, Integer.MAX_VALUE}) {
            dueThrow("ropesOf(" + none + ")", INDEX, rack, () -> rack.ropesOf(none));
        }
    }

    private static void knotOf() {
        promise = 22;
        KnotRack rack = mixedWithLine();
        rack.tie(0, 10);
        due("knotOf(0, 0)", 1, () -> rack.knotOf(0, 0));
        due("knotOf(0, 1)", 5, () -> rack.knotOf(0, 1));
        due("knotOf(0, 2)", 6, () -> rack.knotOf(0, 2));
        due("knotOf(1, 0)", 0, () -> rack.knotOf(1, 0));
        dueThrowNoPlace("knotOf", (line, place) -> rack.knotOf(line, place), rack);
        KnotRack gone = withGoneLine();
        dueThrow("knotOf(0, 0), gone", INDEX, gone, () -> gone.knotOf(0, 0));
    }

    private interface PlaceCall {
        long answer(int line, int place);
    }

    /** For an object with two lines, of three ropes and of one. */
    private static void dueThrowNoPlace(String name, PlaceCall call, KnotRack rack) {
        for (int none : new int[] {2, 5, 6, -1, Integer.MIN_VALUE, Integer.MAX_VALUE}) {
            dueThrow(name + "(" + none + ", 0)", INDEX, rack, () -> call.answer(none, 0));
        }
        for (int none : new int[] {3, 5, -1, Integer.MIN_VALUE, Integer.MAX_VALUE}) {
            dueThrow(name + "(0, " + none + ")", INDEX, rack, () -> call.answer(0, none));
        }
        dueThrow(name + "(1, 1)", INDEX, rack, () -> call.answer(1, 1));
        dueThrow(name + "(1, -1)", INDEX, rack, () -> call.answer(1, -1));
    }

    private static void strengthAt() {
        promise = 23;
        KnotRack rack = mixedWithLine();
        rack.tie(0, 33);
        due("strengthAt(0, 0)", 270, () -> rack.strengthAt(0, 0));
        due("strengthAt(0, 1): the rope behind is weaker", 190, () -> rack.strengthAt(0, 1));
        due("strengthAt(0, 2): the rope ahead is weaker", 140, () -> rack.strengthAt(0, 2));
        due("strengthAt(1, 0): cut towards 0", 16, () -> rack.strengthAt(1, 0));
        dueThrowNoPlace("strengthAt", (line, place) -> rack.strengthAt(line, place), rack);
        KnotRack gone = withGoneLine();
        dueThrow("strengthAt(0, 0), gone", INDEX, gone, () -> gone.strengthAt(0, 0));
    }

    private static void weakestPlace() {
        promise = 24;
        KnotRack rack = mixedWithLine();
        due("weakestPlace(0)", 2, () -> rack.weakestPlace(0));
        KnotRack even = plain();
        even.tie(0, 70);
        even.join(0, 1, 40);
        even.join(0, 1, 90);
        even.join(0, 1, 40);
        due("weakestPlace(0): the first of several", 1, () -> even.weakestPlace(0));
        KnotRack gone = withGoneLine();
        due("weakestPlace(0), gone", -1, () -> gone.weakestPlace(0));
        due("weakestPlace(1)", 0, () -> gone.weakestPlace(1));
        for (int none : new int[] {2, 6, -1, Integer.MIN_VALUE, Integer.MAX_VALUE}) {
            dueThrow("weakestPlace(" + none + ")", INDEX, gone, () -> gone.weakestPlace(none));
        }
    }

    private static void holds() {
        promise = 25;
        KnotRack rack = mixedWithLine();
        due("holds(0, 1)", 1, () -> rack.holds(0, 1) ? 1 : 0);
        due("holds(0, 140)", 1, () -> rack.holds(0, 140) ? 1 : 0);
        due("holds(0, 141)", 0, () -> rack.holds(0, 141) ? 1 : 0);
        dueSame("holds(0, 120)", rack, () -> rack.holds(0, 120) ? 1 : 0);
        dueSame("holds(0, 999)", rack, () -> rack.holds(0, 999) ? 1 : 0);
        KnotRack apart = mixed();
        apart.tie(2, 999);
        due("holds(0, 59)", 1, () -> apart.holds(0, 59) ? 1 : 0);
        due("holds(0, 60), no form", 0, () -> apart.holds(0, 60) ? 1 : 0);
        KnotRack gone = withGoneLine();
        due("holds(0, 1), gone", 0, () -> gone.holds(0, 1) ? 1 : 0);
        for (int none : new int[] {2, 6, -1, Integer.MIN_VALUE, Integer.MAX_VALUE}) {
            dueThrow("holds(" + none + ", 5)", INDEX, gone, () -> gone.holds(none, 5) ? 1 : 0);
            dueThrow("holds(" + none + ", 0)", INDEX, gone, () -> gone.holds(none, 0) ? 1 : 0);
        }
        for (int load : NO_LOADS) {
            dueThrow("holds(0, " + load + "), gone", ARGUMENT, gone, () -> gone.holds(0, load) ? 1 : 0);
            dueThrow("holds(1, " + load + ")", ARGUMENT, gone, () -> gone.holds(1, load) ? 1 : 0);
        }
    }

    private static void holdsUpTo() {
        promise = 26;
        KnotRack rack = mixedWithLine();
        due("holdsUpTo(0)", 140, () -> rack.holdsUpTo(0));
        dueSame("holdsUpTo(0)", rack, () -> rack.holdsUpTo(0));
        KnotRack apart = mixed();
        apart.tie(2, 999);
        due("holdsUpTo(0): until it falls apart", 59, () -> apart.holdsUpTo(0));
        KnotRack strong = plain();
        strong.tie(0, 999);
        due("holdsUpTo(0): all loads", 999, () -> strong.holdsUpTo(0));
        KnotRack weak = new KnotRack();
        weak.addKnot(1, 99, 1);
        weak.tie(0, 1);
        due("holdsUpTo(0): no load", 0, () -> weak.holdsUpTo(0));
        KnotRack gap = new KnotRack();
        gap.addKnot(1, 100, 1);
        gap.addKnot(1, 20, 1);
        gap.setSpill(1, 50, 0);
        gap.tie(1, 100);
        due("holdsUpTo(0): it fails at 21, and holds again from 50 on", 20, () -> gap.holdsUpTo(0));
        due("holds(0, 21)", 0, () -> gap.holds(0, 21) ? 1 : 0);
        due("holds(0, 50)", 1, () -> gap.holds(0, 50) ? 1 : 0);
        gap.setSpill(1, 21, 0);
        due("holdsUpTo(0): it would fail just where it spills", 100, () -> gap.holdsUpTo(0));
        gap.addKnot(1, 30, 1);
        gap.setSpill(2, 21, 1);
        due("retie", 1, () -> gap.retie(0, 0, 2));
        due("holdsUpTo(0): two spills at the same load", 100, () -> gap.holdsUpTo(0));
        gap.setSpill(1, 20, 0);
        due("holdsUpTo(0): the second one spills earlier", 100, () -> gap.holdsUpTo(0));
        KnotRack same = new KnotRack();
        same.addKnot(1, 100, 1);
        same.addKnot(1, 10, 1);
        same.addKnot(1, 90, 1);
        same.setSpill(1, 50, 0);
        same.setSpill(2, 50, 1);
        same.tie(2, 100);
        due("holdsUpTo(0): a weak form that no load leaves", 100, () -> same.holdsUpTo(0));
        KnotRack chain = chain();
        chain.tie(15, 999);
        due("holdsUpTo(0): through 16 forms", 15, () -> chain.holdsUpTo(0));
        KnotRack five = plain();
        fiveRopes(five, 0, 1);
        due("holdsUpTo(0): five ropes", 999, () -> five.holdsUpTo(0));
        KnotRack gone = withGoneLine();
        due("holdsUpTo(0), gone", 0, () -> gone.holdsUpTo(0));
        for (int none : new int[] {2, 6, -1, Integer.MIN_VALUE, Integer.MAX_VALUE}) {
            dueThrow("holdsUpTo(" + none + ")", INDEX, gone, () -> gone.holdsUpTo(none));
        }
    }

    private static void wouldGiveWay() {
        promise = 27;
        KnotRack rack = mixedWithLine();
        due("wouldGiveWay(0, 140)", -1, () -> rack.wouldGiveWay(0, 140));
        due("wouldGiveWay(0, 141)", 2, () -> rack.wouldGiveWay(0, 141));
        due("wouldGiveWay(0, 150)", 2, () -> rack.wouldGiveWay(0, 150));
        due("wouldGiveWay(0, 151): hitch 1 has spilled", 0, () -> rack.wouldGiveWay(0, 151));
        dueSame("wouldGiveWay(0, 141)", rack, () -> rack.wouldGiveWay(0, 141));
        dueSame("wouldGiveWay(0, 100)", rack, () -> rack.wouldGiveWay(0, 100));
        KnotRack gone = withGoneLine();
        due("wouldGiveWay(0, 999), gone", -1, () -> gone.wouldGiveWay(0, 999));
        for (int none : new int[] {2, 6, -1, Integer.MIN_VALUE, Integer.MAX_VALUE}) {
            dueThrow("wouldGiveWay(" + none + ", 5)", INDEX, gone, () -> gone.wouldGiveWay(none, 5));
            dueThrow("wouldGiveWay(" + none + ", 0)", INDEX, gone, () -> gone.wouldGiveWay(none, 0));
        }
        for (int load : NO_LOADS) {
            dueThrow("wouldGiveWay(0, " + load + "), gone", ARGUMENT, gone, () -> gone.wouldGiveWay(0, load));
            dueThrow("wouldGiveWay(1, " + load + ")", ARGUMENT, gone, () -> gone.wouldGiveWay(1, load));
        }
    }

    private static void bestKnot() {
        promise = 28;
        KnotRack rack = mixed();
        rack.tie(0, 300);
        due("bestKnot(0, 0): 0 holds 150, 1 no more, 2 falls apart", 1, () -> rack.bestKnot(0, 0));
        rack.addKnot(1, 60, 9);
        due("bestKnot(0, 0): a lesser one that never spills", 7, () -> rack.bestKnot(0, 0));
        rack.join(0, 3, 100);
        due("bestKnot(0, 1): 5 holds 95", 5, () -> rack.bestKnot(0, 1));
        due("bestKnot(0, 0): the place 1 holds 40 only, so the rank decides", 1, () -> rack.bestKnot(0, 0));
        dueSame("bestKnot(0, 1)", rack, () -> rack.bestKnot(0, 1));
        rack.addKnot(0, 100, 9);
        rack.addKnot(0, 100, 8);
        due("bestKnot(0, 1): of several 9, with the fewer crossings", 9, () -> rack.bestKnot(0, 1));
        KnotRack two = mixedWithLine();
        two.tie(0, 10);
        dueThrowNoPlace("bestKnot", (line, place) -> two.bestKnot(line, place), two);
        KnotRack gone = withGoneLine();
        dueThrow("bestKnot(0, 0), gone", INDEX, gone, () -> gone.bestKnot(0, 0));
        due("bestKnot(1, 0): the only hitch", 0, () -> gone.bestKnot(1, 0));
        KnotRack nothing = new KnotRack();
        nothing.addKnot(1, 50, 5);
        nothing.addKnot(1, 60, 5);
        nothing.tie(0, 1);
        due("bestKnot(0, 0): none holds a load", 1, () -> nothing.bestKnot(0, 0));
    }

    private static void strongestLine() {
        promise = 29;
        KnotRack rack = plain();
        due("strongestLine(), no lines", -1, () -> rack.strongestLine());
        rack.tie(0, 30);
        rack.tie(0, 80);
        rack.tie(0, 80);
        due("strongestLine(): the first of several", 1, () -> rack.strongestLine());
        dueSame("strongestLine()", rack, () -> rack.strongestLine());
        rack.pull(1, 81);
        due("strongestLine()", 2, () -> rack.strongestLine());
        rack.pull(2, 81);
        due("strongestLine()", 0, () -> rack.strongestLine());
        rack.pull(0, 81);
        due("strongestLine(): all are gone", 0, () -> rack.strongestLine());
    }

    private static void meanEfficiency() {
        promise = 30;
        KnotRack rack = new KnotRack();
        dueMean(0.0, rack);
        rack.addKnot(0, 51, 1);
        dueMean(51.0, rack);
        rack.addKnot(1, 60, 1);
        dueMean(55.5, rack);
        rack.addKnot(1, 60, 1);
        dueMean(57.0, rack);
        rack.addKnot(1, 60, 1);
        rack.addKnot(0, 61, 1);
        rack.addKnot(0, 61, 1);
        dueMean(353.0 / 6.0, rack);
        for (int knot = 6; knot < 16; knot++) {
            rack.addKnot(0, 100, 1);
        }
        dueMean(1353.0 / 16.0, rack);
    }

    private static void dueMean(double want, KnotRack rack) {
        asked++;
        double got = rack.meanEfficiency();
        if (got != want) {
            report("meanEfficiency() answered " + got + ", due is " + want);
        }
    }

    private static void digest() {
        promise = 31;
        KnotRack empty = new KnotRack();
        due("digest() of a new object", digestOf(0, 0, -1), () -> empty.digest());
        due("digest() of a new object, worked out", ((2063L * 31) * 31) * 31 - 1, () -> empty.digest());
        KnotRack rack = mixedWithLine();
        rack.tie(2, 100);
        rack.pull(1, 60);
        long want = digestOf(7, 2, 0,
                1, 50, 2, 0, -1, 2, 0,
                1, 90, 3, 100, 0, 0, 0,
                1, 80, 4, 60, -1, 1, 60,
                0, 40, 9, 0, -1, 3, 0,
                0, 70, 5, 30, 3, 1, 0,
                0, 95, 6, 200, 4, 0, 0,
                0, 70, 5, 0, -1, 2, 0,
                3, 140, 2, 1, 270, 5, 190, 6, 140,
                0, 0, -1);
        due("digest()", want, () -> rack.digest());
        due("digest() again", want, () -> rack.digest());
    }

    private static long digestOf(long... numbers) {
        long d = 2063;
        for (long x : numbers) {
            d = d * 31 + x;
        }
        return d;
    }

    public static void main(String[] args) {
        newObject();
        addKnot();
        setSpill();
        tie();
        join();
        retie();
        pull();
        knots();
        knotsOf();
        whatKnotsAre();
        ranks();
        formOf();
        spills();
        fallsApartAt();
        lines();
        ropesOf();
        knotOf();
        strengthAt();
        weakestPlace();
        holds();
        holdsUpTo();
        wouldGiveWay();
        bestKnot();
        strongestLine();
        meanEfficiency();
        digest();
        System.out.println(asked + " asked, " + wrong + " wrong");
        if (wrong != 0) {
            System.exit(1);
        }
    }
}
