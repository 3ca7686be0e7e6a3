/**
 * Each sentence of the document that names a boundary, with a run of its own: the last values that are accepted and
 * the first ones that are refused, nothing there yet, all places taken, a line that is gone, a wrap-around. That a
 * refused call and a question change nothing is looked at behind each one of them; Runs tells how the rows are read.
 */
public final class BoundaryTest {
    /** A hitch 0 and a bend 1, both of 100. */
    private static final String PLAIN = """
            addKnot(1, 100, 1)
            addKnot(0, 100, 1)
            """;

    /** Hitches 0, 1 and 4, bends 2 and 3. */
    private static final String FIVE = """
            addKnot(1, 50, 5)
            addKnot(1, 60, 5)
            addKnot(0, 50, 5)
            addKnot(0, 60, 5)
            addKnot(1, 70, 5)
            """;

    /** Hitches of 50, 90 and 80, bends of 40, 70, 95 and 70; 1, 4 and 5 spill into another one, 2 into nothing. */
    private static final String SPILLING = """
            addKnot(1, 50, 2)
            addKnot(1, 90, 3)
            addKnot(1, 80, 4)
            addKnot(0, 40, 9)
            addKnot(0, 70, 5)
            addKnot(0, 95, 6)
            addKnot(0, 70, 5)
            setSpill(1, 100, 0)
            setSpill(2, 60, -1)
            setSpill(4, 30, 3)
            setSpill(5, 200, 4)
            """;

    /** 16 hitches; each one spills into the one ahead of it, the first one at the greatest load, 16, and into nothing. */
    private static final String CHAIN = """
            addKnot(1, 10, 1)
            addKnot(1, 11, 1)
            addKnot(1, 12, 1)
            addKnot(1, 13, 1)
            addKnot(1, 14, 1)
            addKnot(1, 15, 1)
            addKnot(1, 16, 1)
            addKnot(1, 17, 1)
            addKnot(1, 18, 1)
            addKnot(1, 19, 1)
            addKnot(1, 20, 1)
            addKnot(1, 21, 1)
            addKnot(1, 22, 1)
            addKnot(1, 23, 1)
            addKnot(1, 24, 1)
            addKnot(1, 25, 1)
            setSpill(0, 16, -1)
            setSpill(1, 15, 0)
            setSpill(2, 14, 1)
            setSpill(3, 13, 2)
            setSpill(4, 12, 3)
            setSpill(5, 11, 4)
            setSpill(6, 10, 5)
            setSpill(7, 9, 6)
            setSpill(8, 8, 7)
            setSpill(9, 7, 8)
            setSpill(10, 6, 9)
            setSpill(11, 5, 10)
            setSpill(12, 4, 11)
            setSpill(13, 3, 12)
            setSpill(14, 2, 13)
            setSpill(15, 1, 14)
            """;

    /** The line 0 of PLAIN is gone, the line 1 has one rope. */
    private static final String GONE = PLAIN + """
            tie(0, 10)
            pull(0, 11) = 0
            tie(0, 500)
            """;

    /** The line 0 of PLAIN has five ropes, each one weaker than the one ahead of it. */
    private static final String FULL = PLAIN + """
            tie(0, 500)
            join(0, 1, 400)
            join(0, 1, 300)
            join(0, 1, 200)
            join(0, 1, 100)
            """;

    private static final String FIRST_NAMED = "If several exceptions apply, the one that is named first is thrown.";
    private static final String CHANGES_NOTHING = "A method that throws an exception changes nothing.";
    private static final String GONE_HAS_NONE = "A line that is gone has no ropes and knots.";
    private static final String SPILLS_FORM = "the knot itself, if it does not spill, or spills at a greater load";
    private static final String OR_MORE = "the strength of the place with this form is the load or more";

    private static void newObject() {
        Runs.of(1, "Creates a catalogue without knots, and no lines.", """
                knots() = 0
                lines() = 0
                knotsOf(0) = 0
                knotsOf(1) = 0
                strongestLine() = -1
                meanEfficiency() = 0.0
                digest() = 61458832
                """);
        Runs.of(1, "Creates a catalogue without knots", """
                setSpill(0, 1, -1) = throws.IndexOutOfBoundsException
                tie(0, 1) = throws.IndexOutOfBoundsException
                kindOf(0) = throws.IndexOutOfBoundsException
                efficiencyOf(0) = throws.IndexOutOfBoundsException
                crossingsOf(0) = throws.IndexOutOfBoundsException
                spillsAt(0) = throws.IndexOutOfBoundsException
                spillsInto(0) = throws.IndexOutOfBoundsException
                rankOf(0) = throws.IndexOutOfBoundsException
                knotAt(0, 0) = throws.IndexOutOfBoundsException
                knotAt(1, 0) = throws.IndexOutOfBoundsException
                formOf(0, 1) = throws.IndexOutOfBoundsException
                spills(0, 1) = throws.IndexOutOfBoundsException
                fallsApartAt(0) = throws.IndexOutOfBoundsException
                """);
        Runs.of(1, "and no lines", PLAIN + """
                join(0, 1, 1) = throws.IndexOutOfBoundsException
                retie(0, 0, 0) = throws.IndexOutOfBoundsException
                pull(0, 1) = throws.IndexOutOfBoundsException
                ropesOf(0) = throws.IndexOutOfBoundsException
                knotOf(0, 0) = throws.IndexOutOfBoundsException
                strengthAt(0, 0) = throws.IndexOutOfBoundsException
                weakestPlace(0) = throws.IndexOutOfBoundsException
                holds(0, 1) = throws.IndexOutOfBoundsException
                holdsUpTo(0) = throws.IndexOutOfBoundsException
                wouldGiveWay(0, 1) = throws.IndexOutOfBoundsException
                bestKnot(0, 0) = throws.IndexOutOfBoundsException
                strongestLine() = -1
                """);
    }

    /** The last promised calls: no row asks anything, as a comparison would need more of them. */
    private static void fullUse() {
        Runs.of(1, "An object is used for at most 512 calls after it has been made", """
                addKnot(1, 50, 5) = 0
                510 x setSpill(0, 40, -1)
                setSpill(0, 70, -1) = 40
                """);
        Runs.of(1, "An object is used for at most 512 calls after it has been made", PLAIN + """
                tie(0, 500)
                508 x pull(0, 1)
                pull(0, 501) = 0
                """);
    }

    private static void addKnot() {
        Runs.of(2, "if kind is not 0 or 1", """
                addKnot(0, 50, 5) = 0
                addKnot(1, 50, 5) = 1
                kindOf(0) = 0
                kindOf(1) = 1
                addKnot(-1, 50, 5) = throws.IndexOutOfBoundsException
                addKnot(2, 50, 5) = throws.IndexOutOfBoundsException
                addKnot(MIN, 50, 5) = throws.IndexOutOfBoundsException
                addKnot(MAX, 50, 5) = throws.IndexOutOfBoundsException
                """);
        Runs.of(2, "efficiency is not 10 to 100", """
                addKnot(0, 10, 5) = 0
                addKnot(1, 100, 5) = 1
                efficiencyOf(0) = 10
                efficiencyOf(1) = 100
                addKnot(0, 9, 5) = throws.IllegalArgumentException
                addKnot(1, 101, 5) = throws.IllegalArgumentException
                addKnot(0, 0, 5) = throws.IllegalArgumentException
                addKnot(0, -10, 5) = throws.IllegalArgumentException
                addKnot(1, MIN, 5) = throws.IllegalArgumentException
                addKnot(1, MAX, 5) = throws.IllegalArgumentException
                """);
        Runs.of(2, "crossings is not 1 to 9", """
                addKnot(0, 50, 1) = 0
                addKnot(1, 50, 9) = 1
                crossingsOf(0) = 1
                crossingsOf(1) = 9
                addKnot(0, 50, 0) = throws.IllegalArgumentException
                addKnot(1, 50, 10) = throws.IllegalArgumentException
                addKnot(0, 50, -1) = throws.IllegalArgumentException
                addKnot(1, 50, MIN) = throws.IllegalArgumentException
                addKnot(1, 50, MAX) = throws.IllegalArgumentException
                """);
        Runs.of(2, "if there are 16", """
                8 x addKnot(1, 50, 5)
                7 x addKnot(0, 50, 5)
                addKnot(0, 51, 6) = 15
                addKnot(0, 52, 7) = throws.IllegalStateException
                addKnot(1, 52, 7) = throws.IllegalStateException
                knots() = 16
                knotsOf(0) = 8
                efficiencyOf(15) = 51
                """);
        Runs.of(2, "if there are 16", """
                15 x addKnot(0, 50, 5)
                addKnot(0, 50, 5) = 15
                addKnot(1, 50, 5) = throws.IllegalStateException
                """);
        Runs.of(2, "Adds a knot that does not spill.", """
                addKnot(1, 50, 5) = 0
                spillsAt(0) = 0
                spillsInto(0) = -1
                formOf(0, 999) = 0
                spills(0, 999) = 0
                fallsApartAt(0) = 0
                """);
        Runs.of(2, "Returns its number.", """
                addKnot(1, 50, 5) = 0
                addKnot(0, 50, 5) = 1
                addKnot(0, 50, 5) = 2
                addKnot(1, 50, 5) = 3
                """);
        Runs.of(2, FIRST_NAMED, """
                addKnot(2, 9, 5) = throws.IndexOutOfBoundsException
                addKnot(-1, 50, 0) = throws.IndexOutOfBoundsException
                16 x addKnot(1, 50, 5)
                addKnot(2, 50, 5) = throws.IndexOutOfBoundsException
                addKnot(-1, 101, 10) = throws.IndexOutOfBoundsException
                addKnot(0, 9, 5) = throws.IllegalArgumentException
                addKnot(0, 101, 5) = throws.IllegalArgumentException
                addKnot(1, 50, 0) = throws.IllegalArgumentException
                addKnot(1, 50, 10) = throws.IllegalArgumentException
                """);
        Runs.of(2, CHANGES_NOTHING, """
                addKnot(2, 50, 5) = throws.IndexOutOfBoundsException
                addKnot(1, 9, 5) = throws.IllegalArgumentException
                addKnot(1, 50, 10) = throws.IllegalArgumentException
                knots() = 0
                addKnot(1, 50, 5) = 0
                15 x addKnot(1, 60, 6)
                addKnot(0, 70, 7) = throws.IllegalStateException
                kindOf(15) = 1
                efficiencyOf(0) = 50
                """);
    }

    private static void setSpill() {
        Runs.of(3, "if there is no such knot", FIVE + """
                setSpill(0, 5, -1) = 0
                setSpill(4, 5, -1) = 0
                setSpill(-1, 5, -1) = throws.IndexOutOfBoundsException
                setSpill(5, 5, -1) = throws.IndexOutOfBoundsException
                setSpill(15, 5, -1) = throws.IndexOutOfBoundsException
                setSpill(16, 5, -1) = throws.IndexOutOfBoundsException
                setSpill(MIN, 5, -1) = throws.IndexOutOfBoundsException
                setSpill(MAX, 5, -1) = throws.IndexOutOfBoundsException
                """);
        Runs.of(3, "if there is no such knot", """
                16 x addKnot(1, 50, 5)
                setSpill(15, 5, 14) = 0
                setSpill(16, 5, 14) = throws.IndexOutOfBoundsException
                """);
        Runs.of(3, "load is not 1 to 999", FIVE + """
                setSpill(1, 1, 0) = 0
                spillsAt(1) = 1
                setSpill(1, 999, 0) = 1
                spillsAt(1) = 999
                setSpill(1, 0, 0) = throws.IllegalArgumentException
                setSpill(1, 1000, 0) = throws.IllegalArgumentException
                setSpill(1, -1, 0) = throws.IllegalArgumentException
                setSpill(1, MIN, 0) = throws.IllegalArgumentException
                setSpill(1, MAX, -1) = throws.IllegalArgumentException
                """);
        Runs.of(3, "into is less than -1", FIVE + """
                setSpill(4, 5, -1) = 0
                setSpill(4, 5, 0) = 5
                setSpill(4, 5, -2) = throws.IllegalArgumentException
                setSpill(4, 5, MIN) = throws.IllegalArgumentException
                """);
        Runs.of(3, "not less than knot", FIVE + """
                setSpill(1, 5, 0) = 0
                setSpill(3, 5, 2) = 0
                setSpill(1, 5, 1) = throws.IllegalArgumentException
                setSpill(3, 5, 3) = throws.IllegalArgumentException
                setSpill(1, 5, 4) = throws.IllegalArgumentException
                setSpill(2, 5, 3) = throws.IllegalArgumentException
                setSpill(4, 5, 5) = throws.IllegalArgumentException
                setSpill(4, 5, 16) = throws.IllegalArgumentException
                setSpill(4, 5, MAX) = throws.IllegalArgumentException
                """);
        Runs.of(3, "not less than knot", FIVE + """
                setSpill(0, 5, 0) = throws.IllegalArgumentException
                setSpill(0, 5, 1) = throws.IllegalArgumentException
                setSpill(0, 5, -1) = 0
                """);
        Runs.of(3, "or of another kind", FIVE + """
                setSpill(4, 5, 0) = 0
                setSpill(4, 5, 2) = throws.IllegalArgumentException
                setSpill(4, 5, 3) = throws.IllegalArgumentException
                setSpill(4, 5, 1) = 5
                setSpill(3, 5, 0) = throws.IllegalArgumentException
                setSpill(3, 5, 1) = throws.IllegalArgumentException
                setSpill(2, 5, 0) = throws.IllegalArgumentException
                """);
        Runs.of(3, "Returns the load at which it spilled before; 0 if it did not.", FIVE + """
                setSpill(1, 999, 0) = 0
                setSpill(1, 7, -1) = 999
                setSpill(1, 7, 0) = 7
                setSpill(1, 1, -1) = 7
                setSpill(4, 8, 1) = 0
                setSpill(1, 2, -1) = 1
                """);
        Runs.of(3, "the load at which it does so from now on", FIVE + """
                setSpill(1, 10, 0) = 0
                formOf(1, 9) = 1
                formOf(1, 10) = 0
                setSpill(1, 20, 0) = 10
                formOf(1, 19) = 1
                formOf(1, 20) = 0
                setSpill(1, 5, 0) = 20
                formOf(1, 4) = 1
                formOf(1, 5) = 0
                """);
        Runs.of(3, "the load at which it does so from now on", PLAIN + """
                tie(0, 500)
                holdsUpTo(0) = 500
                setSpill(0, 40, -1) = 0
                holdsUpTo(0) = 39
                setSpill(0, 501, -1) = 40
                holdsUpTo(0) = 500
                """);
        Runs.of(3, "the knot into which it spills; -1 for nothing", FIVE + """
                setSpill(1, 5, 0) = 0
                spillsInto(1) = 0
                setSpill(1, 5, -1) = 5
                spillsInto(1) = -1
                formOf(1, 5) = -1
                setSpill(4, 5, 1) = 0
                spillsInto(4) = 1
                """);
        Runs.of(3, FIRST_NAMED, FIVE + """
                setSpill(5, 0, -1) = throws.IndexOutOfBoundsException
                setSpill(-1, 1000, -1) = throws.IndexOutOfBoundsException
                setSpill(5, 5, -2) = throws.IndexOutOfBoundsException
                setSpill(5, 5, 5) = throws.IndexOutOfBoundsException
                setSpill(-1, 5, 0) = throws.IndexOutOfBoundsException
                setSpill(16, 5, 2) = throws.IndexOutOfBoundsException
                setSpill(4, 0, 4) = throws.IllegalArgumentException
                """);
        Runs.of(3, CHANGES_NOTHING, FIVE + """
                setSpill(4, 30, 1) = 0
                setSpill(4, 1000, 0) = throws.IllegalArgumentException
                setSpill(4, 40, -2) = throws.IllegalArgumentException
                setSpill(4, 40, 4) = throws.IllegalArgumentException
                setSpill(4, 40, 3) = throws.IllegalArgumentException
                setSpill(5, 40, 0) = throws.IndexOutOfBoundsException
                spillsAt(4) = 30
                spillsInto(4) = 1
                setSpill(3, 40, 1) = throws.IllegalArgumentException
                spillsAt(3) = 0
                setSpill(3, 50, 2) = 0
                """);
    }

    private static void tie() {
        Runs.of(4, "if there is no such knot", PLAIN + """
                tie(0, 5) = 0
                tie(-1, 5) = throws.IndexOutOfBoundsException
                tie(2, 5) = throws.IndexOutOfBoundsException
                tie(16, 5) = throws.IndexOutOfBoundsException
                tie(MIN, 5) = throws.IndexOutOfBoundsException
                tie(MAX, 5) = throws.IndexOutOfBoundsException
                """);
        Runs.of(4, "if there is no such knot", """
                15 x addKnot(0, 50, 5)
                tie(15, 5) = throws.IndexOutOfBoundsException
                addKnot(1, 50, 5) = 15
                tie(15, 5) = 0
                tie(16, 5) = throws.IndexOutOfBoundsException
                """);
        Runs.of(4, "if it is not a hitch", PLAIN + """
                tie(1, 5) = throws.IllegalArgumentException
                tie(0, 5) = 0
                tie(1, 5) = throws.IllegalArgumentException
                """);
        Runs.of(4, "strength is not 1 to 999", PLAIN + """
                tie(0, 1) = 0
                strengthAt(0, 0) = 1
                tie(0, 999) = 1
                strengthAt(1, 0) = 999
                tie(0, 0) = throws.IllegalArgumentException
                tie(0, 1000) = throws.IllegalArgumentException
                tie(0, -1) = throws.IllegalArgumentException
                tie(0, MIN) = throws.IllegalArgumentException
                tie(0, MAX) = throws.IllegalArgumentException
                """);
        Runs.of(4, "if there are 6 lines", PLAIN + """
                5 x tie(0, 5)
                tie(0, 7) = 5
                tie(0, 9) = throws.IllegalStateException
                lines() = 6
                strengthAt(5, 0) = 7
                """);
        Runs.of(4, "those that are gone as well", PLAIN + """
                6 x tie(0, 5)
                pull(5, 6) = 0
                tie(0, 5) = throws.IllegalStateException
                pull(0, 6) = 0
                tie(0, 5) = throws.IllegalStateException
                pull(1, 6) = 0
                pull(2, 6) = 0
                pull(3, 6) = 0
                pull(4, 6) = 0
                tie(0, 5) = throws.IllegalStateException
                lines() = 6
                """);
        Runs.of(4, "Returns the number of the new line.", PLAIN + """
                tie(0, 5) = 0
                tie(0, 5) = 1
                pull(1, 6) = 0
                tie(0, 5) = 2
                ropesOf(1) = 0
                ropesOf(2) = 1
                """);
        Runs.of(4, "Ties a rope to a post.", FIVE + """
                tie(4, 200) = 0
                ropesOf(0) = 1
                knotOf(0, 0) = 4
                strengthAt(0, 0) = 140
                """);
        Runs.of(4, FIRST_NAMED, PLAIN + """
                tie(2, 0) = throws.IndexOutOfBoundsException
                tie(-1, 1000) = throws.IndexOutOfBoundsException
                6 x tie(0, 5)
                tie(2, 5) = throws.IndexOutOfBoundsException
                tie(-1, 0) = throws.IndexOutOfBoundsException
                tie(1, 5) = throws.IllegalArgumentException
                tie(0, 0) = throws.IllegalArgumentException
                tie(0, 1000) = throws.IllegalArgumentException
                """);
        Runs.of(4, CHANGES_NOTHING, PLAIN + """
                tie(2, 5) = throws.IndexOutOfBoundsException
                tie(1, 5) = throws.IllegalArgumentException
                tie(0, 1000) = throws.IllegalArgumentException
                lines() = 0
                tie(0, 5) = 0
                5 x tie(0, 6)
                tie(0, 7) = throws.IllegalStateException
                strengthAt(0, 0) = 5
                strengthAt(5, 0) = 6
                """);
    }

    private static void join() {
        Runs.of(5, "if there is no such line", GONE + """
                join(1, 1, 5) = 2
                join(-1, 1, 5) = throws.IndexOutOfBoundsException
                join(2, 1, 5) = throws.IndexOutOfBoundsException
                join(6, 1, 5) = throws.IndexOutOfBoundsException
                join(MIN, 1, 5) = throws.IndexOutOfBoundsException
                join(MAX, 1, 5) = throws.IndexOutOfBoundsException
                """);
        Runs.of(5, "if there is no such line", PLAIN + """
                6 x tie(0, 5)
                join(5, 1, 5) = 2
                join(6, 1, 5) = throws.IndexOutOfBoundsException
                """);
        Runs.of(5, "or knot", PLAIN + """
                tie(0, 5)
                join(0, 1, 5) = 2
                join(0, -1, 5) = throws.IndexOutOfBoundsException
                join(0, 2, 5) = throws.IndexOutOfBoundsException
                join(0, 16, 5) = throws.IndexOutOfBoundsException
                join(0, MIN, 5) = throws.IndexOutOfBoundsException
                join(0, MAX, 5) = throws.IndexOutOfBoundsException
                """);
        Runs.of(5, "if it is not a bend", PLAIN + """
                tie(0, 5)
                join(0, 0, 5) = throws.IllegalArgumentException
                join(0, 1, 5) = 2
                join(0, 0, 5) = throws.IllegalArgumentException
                """);
        Runs.of(5, "strength is not 1 to 999", PLAIN + """
                tie(0, 999)
                join(0, 1, 999) = 2
                strengthAt(0, 1) = 999
                join(0, 1, 1) = 3
                strengthAt(0, 2) = 1
                join(0, 1, 0) = throws.IllegalArgumentException
                join(0, 1, 1000) = throws.IllegalArgumentException
                join(0, 1, -1) = throws.IllegalArgumentException
                join(0, 1, MIN) = throws.IllegalArgumentException
                join(0, 1, MAX) = throws.IllegalArgumentException
                """);
        Runs.of(5, "if the line is gone", GONE + """
                join(0, 1, 5) = throws.IllegalStateException
                ropesOf(0) = 0
                join(1, 1, 5) = 2
                """);
        Runs.of(5, "or has 5 ropes", PLAIN + """
                tie(0, 500)
                3 x join(0, 1, 400)
                join(0, 1, 300) = 5
                join(0, 1, 200) = throws.IllegalStateException
                ropesOf(0) = 5
                strengthAt(0, 4) = 300
                """);
        Runs.of(5, "or has 5 ropes", FULL + """
                pull(0, 101) = 4
                join(0, 1, 50) = 5
                join(0, 1, 50) = throws.IllegalStateException
                tie(0, 70) = 1
                join(1, 1, 60) = 2
                """);
        Runs.of(5, "At most 6, numbered from 0; each has ropes, 1 to 5", PLAIN + """
                5 x tie(0, 500)
                tie(0, 450)
                4 x join(0, 1, 400)
                4 x join(1, 1, 400)
                4 x join(2, 1, 400)
                4 x join(3, 1, 400)
                3 x join(4, 1, 400)
                3 x join(5, 1, 400)
                join(4, 1, 350) = 5
                join(5, 1, 300) = 5
                join(4, 1, 5) = throws.IllegalStateException
                join(5, 1, 5) = throws.IllegalStateException
                strengthAt(4, 4) = 350
                strengthAt(5, 0) = 450
                strengthAt(5, 4) = 300
                knotOf(5, 4) = 1
                weakestPlace(5) = 4
                retie(5, 4, 1) = 1
                pull(4, 400) = 4
                ropesOf(5) = 5
                pull(5, 300) = -1
                pull(5, 301) = 4
                join(5, 1, 200) = 5
                """);
        Runs.of(5, "Returns how many ropes the line has then.", PLAIN + """
                tie(0, 5)
                join(0, 1, 5) = 2
                join(0, 1, 5) = 3
                join(0, 1, 5) = 4
                join(0, 1, 5) = 5
                """);
        Runs.of(5, "Joins a rope to the end of a line.", FIVE + """
                tie(0, 200)
                tie(1, 200)
                join(0, 3, 150) = 2
                knotOf(0, 1) = 3
                strengthAt(0, 1) = 90
                knotOf(0, 0) = 0
                ropesOf(1) = 1
                """);
        Runs.of(5, FIRST_NAMED, GONE + """
                join(2, 0, 5) = throws.IndexOutOfBoundsException
                join(2, 1, 0) = throws.IndexOutOfBoundsException
                join(0, 2, 0) = throws.IndexOutOfBoundsException
                join(0, -1, 1000) = throws.IndexOutOfBoundsException
                join(0, 0, 5) = throws.IllegalArgumentException
                join(0, 1, 0) = throws.IllegalArgumentException
                join(0, 1, 1000) = throws.IllegalArgumentException
                """);
        Runs.of(5, FIRST_NAMED, FULL + """
                join(1, 1, 5) = throws.IndexOutOfBoundsException
                join(0, 2, 5) = throws.IndexOutOfBoundsException
                join(0, 0, 5) = throws.IllegalArgumentException
                join(0, 1, 0) = throws.IllegalArgumentException
                join(0, 1, 1000) = throws.IllegalArgumentException
                """);
        Runs.of(5, CHANGES_NOTHING, PLAIN + """
                tie(0, 500)
                join(1, 1, 5) = throws.IndexOutOfBoundsException
                join(0, 0, 5) = throws.IllegalArgumentException
                join(0, 1, 1000) = throws.IllegalArgumentException
                ropesOf(0) = 1
                4 x join(0, 1, 400)
                join(0, 1, 5) = throws.IllegalStateException
                strengthAt(0, 4) = 400
                """);
    }

    private static void retie() {
        String twoRopes = FIVE + """
                tie(0, 100)
                join(0, 2, 100)
                """;
        Runs.of(6, "if there is no such line", twoRopes + """
                retie(0, 0, 1) = 0
                retie(-1, 0, 1) = throws.IndexOutOfBoundsException
                retie(1, 0, 1) = throws.IndexOutOfBoundsException
                retie(6, 0, 1) = throws.IndexOutOfBoundsException
                retie(MIN, 0, 1) = throws.IndexOutOfBoundsException
                retie(MAX, 0, 1) = throws.IndexOutOfBoundsException
                """);
        Runs.of(6, "place of it", twoRopes + """
                retie(0, 0, 4) = 0
                retie(0, 1, 3) = 2
                retie(0, -1, 3) = throws.IndexOutOfBoundsException
                retie(0, 2, 3) = throws.IndexOutOfBoundsException
                retie(0, 5, 3) = throws.IndexOutOfBoundsException
                retie(0, MIN, 3) = throws.IndexOutOfBoundsException
                retie(0, MAX, 3) = throws.IndexOutOfBoundsException
                """);
        Runs.of(6, "place of it", FULL + """
                addKnot(0, 50, 5) = 2
                tie(0, 70) = 1
                retie(0, 4, 2) = 1
                retie(0, 5, 2) = throws.IndexOutOfBoundsException
                retie(1, 1, 2) = throws.IndexOutOfBoundsException
                retie(1, -1, 2) = throws.IndexOutOfBoundsException
                pull(0, 201) = 3
                retie(0, 2, 2) = 1
                retie(0, 3, 2) = throws.IndexOutOfBoundsException
                """);
        Runs.of(6, GONE_HAS_NONE, GONE + """
                retie(0, 0, 0) = throws.IndexOutOfBoundsException
                retie(0, 1, 1) = throws.IndexOutOfBoundsException
                retie(1, 0, 0) = 0
                """);
        Runs.of(6, "or knot", twoRopes + """
                retie(0, 0, 4) = 0
                retie(0, 0, -1) = throws.IndexOutOfBoundsException
                retie(0, 0, 5) = throws.IndexOutOfBoundsException
                retie(0, 1, 5) = throws.IndexOutOfBoundsException
                retie(0, 1, 16) = throws.IndexOutOfBoundsException
                retie(0, 1, MIN) = throws.IndexOutOfBoundsException
                retie(0, 1, MAX) = throws.IndexOutOfBoundsException
                """);
        Runs.of(6, "it is not of the kind that has to be there", twoRopes + """
                retie(0, 0, 2) = throws.IllegalArgumentException
                retie(0, 0, 3) = throws.IllegalArgumentException
                retie(0, 0, 1) = 0
                retie(0, 1, 0) = throws.IllegalArgumentException
                retie(0, 1, 4) = throws.IllegalArgumentException
                retie(0, 1, 3) = 2
                """);
        Runs.of(6, "it is not of the kind that has to be there", FULL + """
                retie(0, 2, 0) = throws.IllegalArgumentException
                retie(0, 4, 0) = throws.IllegalArgumentException
                retie(0, 4, 1) = 1
                """);
        Runs.of(6, "Returns the knot that was there.", twoRopes + """
                retie(0, 0, 4) = 0
                retie(0, 0, 4) = 4
                retie(0, 0, 1) = 4
                retie(0, 1, 2) = 2
                knotOf(0, 0) = 1
                knotOf(0, 1) = 2
                """);
        Runs.of(6, FIRST_NAMED, twoRopes + """
                retie(1, 0, 2) = throws.IndexOutOfBoundsException
                retie(-1, 1, 0) = throws.IndexOutOfBoundsException
                retie(0, 2, 0) = throws.IndexOutOfBoundsException
                retie(0, -1, 2) = throws.IndexOutOfBoundsException
                retie(0, -1, 0) = throws.IndexOutOfBoundsException
                """);
        Runs.of(6, CHANGES_NOTHING, twoRopes + """
                tie(1, 100) = 1
                retie(0, 0, 3) = throws.IllegalArgumentException
                retie(0, 1, 4) = throws.IllegalArgumentException
                retie(0, 2, 3) = throws.IndexOutOfBoundsException
                retie(1, 1, 3) = throws.IndexOutOfBoundsException
                knotOf(0, 0) = 0
                knotOf(0, 1) = 2
                knotOf(1, 0) = 1
                ropesOf(0) = 2
                """);
    }

    private static void pullRefused() {
        Runs.of(7, "if there is no such line", GONE + """
                pull(1, 1) = -1
                pull(-1, 1) = throws.IndexOutOfBoundsException
                pull(2, 1) = throws.IndexOutOfBoundsException
                pull(6, 1) = throws.IndexOutOfBoundsException
                pull(MIN, 1) = throws.IndexOutOfBoundsException
                pull(MAX, 1) = throws.IndexOutOfBoundsException
                """);
        Runs.of(7, "if there is no such line", PLAIN + """
                6 x tie(0, 5)
                pull(5, 6) = 0
                pull(6, 6) = throws.IndexOutOfBoundsException
                """);
        Runs.of(7, "if load is not 1 to 999", PLAIN + """
                tie(0, 999)
                pull(0, 1) = -1
                pull(0, 999) = -1
                pull(0, 0) = throws.IllegalArgumentException
                pull(0, 1000) = throws.IllegalArgumentException
                pull(0, -1) = throws.IllegalArgumentException
                pull(0, MIN) = throws.IllegalArgumentException
                pull(0, MAX) = throws.IllegalArgumentException
                """);
        Runs.of(7, "if it is gone", GONE + """
                pull(0, 1) = throws.IllegalStateException
                pull(0, 999) = throws.IllegalStateException
                pull(1, 1) = -1
                """);
        Runs.of(7, FIRST_NAMED, GONE + """
                pull(2, 0) = throws.IndexOutOfBoundsException
                pull(-1, 1000) = throws.IndexOutOfBoundsException
                pull(0, 0) = throws.IllegalArgumentException
                pull(0, 1000) = throws.IllegalArgumentException
                """);
        Runs.of(7, CHANGES_NOTHING, SPILLING + """
                tie(1, 999)
                join(0, 4, 20)
                pull(0, 1000) = throws.IllegalArgumentException
                pull(1, 500) = throws.IndexOutOfBoundsException
                knotOf(0, 0) = 1
                knotOf(0, 1) = 4
                ropesOf(0) = 2
                """);
    }

    private static void pull() {
        Runs.of(7, OR_MORE, FIVE + """
                tie(0, 300)
                pull(0, 150) = -1
                ropesOf(0) = 1
                pull(0, 151) = 0
                ropesOf(0) = 0
                """);
        Runs.of(7, "A place holds a load, if its knot has a form under it", SPILLING + """
                tie(2, 999)
                pull(0, 59) = -1
                knotOf(0, 0) = 2
                pull(0, 60) = 0
                ropesOf(0) = 0
                """);
        Runs.of(7, OR_MORE, SPILLING + """
                tie(1, 150)
                pull(0, 99) = -1
                strengthAt(0, 0) = 135
                pull(0, 100) = 0
                """);
        Runs.of(7, OR_MORE, """
                addKnot(1, 100, 1) = 0
                addKnot(1, 10, 1) = 1
                setSpill(1, 50, 0) = 0
                tie(1, 100)
                strengthAt(0, 0) = 10
                pull(0, 50) = -1
                strengthAt(0, 0) = 100
                tie(1, 100)
                pull(1, 49) = 0
                """);
        Runs.of(7, "if the line holds it, each of its knots becomes its form under this load.", SPILLING + """
                tie(1, 999)
                join(0, 5, 999)
                join(0, 4, 999)
                pull(0, 29) = -1
                knotOf(0, 2) = 4
                pull(0, 30) = -1
                knotOf(0, 2) = 3
                pull(0, 99) = -1
                knotOf(0, 0) = 1
                pull(0, 100) = -1
                knotOf(0, 0) = 0
                pull(0, 199) = -1
                knotOf(0, 1) = 5
                pull(0, 200) = -1
                knotOf(0, 1) = 3
                ropesOf(0) = 3
                """);
        Runs.of(7, "if the line holds it, each of its knots becomes its form under this load.", SPILLING + """
                tie(1, 999)
                tie(1, 999)
                pull(0, 100) = -1
                knotOf(0, 0) = 0
                knotOf(1, 0) = 1
                spillsAt(1) = 100
                spillsInto(1) = 0
                pull(0, 1) = -1
                knotOf(0, 0) = 0
                """);
        Runs.of(7, "if the line holds it, each of its knots becomes its form under this load.", SPILLING + """
                tie(0, 999)
                4 x join(0, 6, 999)
                tie(1, 999)
                pull(0, 100) = -1
                knotOf(1, 0) = 1
                """);
        Runs.of(7, "Otherwise the first place that does not hold it gives way", PLAIN + """
                tie(0, 100)
                join(0, 1, 50)
                join(0, 1, 20)
                join(0, 1, 50)
                pull(0, 51) = 1
                ropesOf(0) = 1
                strengthAt(0, 0) = 100
                """);
        Runs.of(7, "the line is gone, if this is the place 0", PLAIN + """
                tie(0, 50)
                join(0, 1, 999)
                pull(0, 51) = 0
                ropesOf(0) = 0
                lines() = 1
                weakestPlace(0) = -1
                """);
        Runs.of(7, "the ropes from this one on, and the knots at this place and behind it, are lost", FULL + """
                tie(0, 999)
                pull(0, 101) = 4
                ropesOf(0) = 4
                knotOf(0, 4) = throws.IndexOutOfBoundsException
                strengthAt(0, 3) = 200
                pull(0, 301) = 2
                ropesOf(0) = 2
                knotOf(0, 2) = throws.IndexOutOfBoundsException
                pull(0, 401) = 1
                ropesOf(0) = 1
                knotOf(0, 1) = throws.IndexOutOfBoundsException
                knotOf(0, 0) = 0
                pull(0, 501) = 0
                ropesOf(0) = 0
                knotOf(0, 0) = throws.IndexOutOfBoundsException
                ropesOf(1) = 1
                """);
        Runs.of(7, "each knot ahead of it becomes its form under the load", SPILLING + """
                tie(1, 999)
                join(0, 4, 999)
                join(0, 6, 120)
                join(0, 5, 999)
                pull(0, 100) = 2
                ropesOf(0) = 2
                knotOf(0, 0) = 0
                knotOf(0, 1) = 3
                strengthAt(0, 1) = 399
                join(0, 6, 999) = 3
                strengthAt(0, 2) = 699
                """);
        Runs.of(7, "Returns the place that gives way; -1 for none.", FULL + """
                pull(0, 100) = -1
                pull(0, 500) = 1
                pull(0, 500) = -1
                pull(0, 501) = 0
                """);
    }

    private static void knots() {
        Runs.of(8, "Returns how many knots there are.", """
                knots() = 0
                addKnot(0, 50, 5)
                knots() = 1
                addKnot(1, 50, 5)
                knots() = 2
                13 x addKnot(0, 50, 5)
                knots() = 15
                addKnot(0, 50, 5)
                knots() = 16
                addKnot(0, 50, 5) = throws.IllegalStateException
                knots() = 16
                """);
        Runs.of(9, "Returns how many knots are of it.", """
                knotsOf(0) = 0
                knotsOf(1) = 0
                addKnot(1, 50, 5)
                knotsOf(0) = 0
                knotsOf(1) = 1
                15 x addKnot(1, 50, 5)
                knotsOf(0) = 0
                knotsOf(1) = 16
                """);
        Runs.of(9, "Returns how many knots are of it.", FIVE + """
                knotsOf(0) = 2
                knotsOf(1) = 3
                """);
        Runs.of(9, "if kind is not 0 or 1", FIVE + """
                knotsOf(-1) = throws.IndexOutOfBoundsException
                knotsOf(2) = throws.IndexOutOfBoundsException
                knotsOf(MIN) = throws.IndexOutOfBoundsException
                knotsOf(MAX) = throws.IndexOutOfBoundsException
                """);
    }

    /** For a question that takes a knot alone: two knots, then all sixteen. */
    private static void noSuchKnot(int promise, String name, long answerOfLast) {
        String refused = "(%s) = throws.IndexOutOfBoundsException\n";
        StringBuilder rows = new StringBuilder(PLAIN);
        for (String none : new String[] {"-1", "2", "15", "16", "MIN", "MAX"}) {
            rows.append(name).append(String.format(refused, none));
        }
        rows.append("14 x addKnot(1, 50, 5)\n");
        rows.append(name).append("(15) = ").append(answerOfLast).append('\n');
        rows.append(name).append(String.format(refused, "16"));
        rows.append(name).append(String.format(refused, "-1"));
        Runs.of(promise, "if there is no such knot", rows.toString());
    }

    private static void whatKnotsAre() {
        noSuchKnot(10, "kindOf", 1);
        noSuchKnot(11, "efficiencyOf", 50);
        noSuchKnot(12, "crossingsOf", 5);
        noSuchKnot(13, "spillsAt", 0);
        noSuchKnot(14, "spillsInto", -1);
        Runs.of(10, "Returns its kind.", FIVE + """
                kindOf(0) = 1
                kindOf(2) = 0
                kindOf(4) = 1
                """);
        Runs.of(11, "Returns its efficiency.", """
                addKnot(0, 10, 9) = 0
                addKnot(1, 100, 1) = 1
                efficiencyOf(0) = 10
                efficiencyOf(1) = 100
                """);
        Runs.of(12, "Returns how many crossings it has.", """
                addKnot(0, 10, 9) = 0
                addKnot(1, 100, 1) = 1
                crossingsOf(0) = 9
                crossingsOf(1) = 1
                """);
        Runs.of(13, "Returns the load at which it spills; 0 if it does not.", FIVE + """
                spillsAt(1) = 0
                setSpill(1, 1, -1)
                spillsAt(1) = 1
                setSpill(1, 999, 0)
                spillsAt(1) = 999
                spillsAt(0) = 0
                """);
        Runs.of(14, "Returns the knot into which it spills; -1 for nothing, or if it does not.", FIVE + """
                spillsInto(4) = -1
                setSpill(4, 5, 0)
                spillsInto(4) = 0
                setSpill(4, 5, 1)
                spillsInto(4) = 1
                setSpill(4, 5, -1)
                spillsInto(4) = -1
                """);
    }

    private static void ranks() {
        Runs.of(15, "Knots of a kind are ranked by their efficiency, the greatest first", """
                addKnot(1, 50, 1) = 0
                addKnot(1, 51, 9) = 1
                rankOf(0) = 1
                rankOf(1) = 0
                addKnot(1, 49, 1) = 2
                rankOf(2) = 2
                rankOf(1) = 0
                """);
        Runs.of(15, "of several by their crossings, the fewest first", """
                addKnot(0, 50, 5) = 0
                addKnot(0, 50, 4) = 1
                addKnot(0, 50, 6) = 2
                rankOf(0) = 1
                rankOf(1) = 0
                rankOf(2) = 2
                """);
        Runs.of(15, "of several by their numbers", """
                addKnot(1, 50, 5) = 0
                addKnot(1, 50, 5) = 1
                addKnot(1, 50, 5) = 2
                rankOf(0) = 0
                rankOf(1) = 1
                rankOf(2) = 2
                """);
        Runs.of(15, "Knots of a kind are ranked", """
                addKnot(1, 100, 1) = 0
                addKnot(0, 10, 9) = 1
                addKnot(1, 100, 1) = 2
                addKnot(0, 50, 9) = 3
                rankOf(1) = 1
                rankOf(3) = 0
                rankOf(2) = 1
                """);
        Runs.of(15, "The first one has the rank 0.", """
                addKnot(1, 10, 9)
                rankOf(0) = 0
                addKnot(0, 10, 9)
                rankOf(1) = 0
                13 x addKnot(1, 11, 9)
                addKnot(1, 11, 8)
                rankOf(15) = 0
                rankOf(0) = 14
                """);
        noSuchKnot(15, "rankOf", 14);
    }

    private static void knotAt() {
        Runs.of(16, "if kind is not 0 or 1", FIVE + """
                knotAt(0, 0) = 3
                knotAt(1, 0) = 4
                knotAt(-1, 0) = throws.IndexOutOfBoundsException
                knotAt(2, 0) = throws.IndexOutOfBoundsException
                knotAt(MIN, 0) = throws.IndexOutOfBoundsException
                knotAt(MAX, 0) = throws.IndexOutOfBoundsException
                """);
        Runs.of(16, "there is no such rank", FIVE + """
                knotAt(0, 1) = 2
                knotAt(0, 2) = throws.IndexOutOfBoundsException
                knotAt(0, -1) = throws.IndexOutOfBoundsException
                knotAt(1, 2) = 0
                knotAt(1, 3) = throws.IndexOutOfBoundsException
                knotAt(1, -1) = throws.IndexOutOfBoundsException
                knotAt(1, MIN) = throws.IndexOutOfBoundsException
                knotAt(1, MAX) = throws.IndexOutOfBoundsException
                """);
        Runs.of(16, "there is no such rank", """
                16 x addKnot(1, 50, 5)
                knotAt(1, 15) = 15
                knotAt(1, 16) = throws.IndexOutOfBoundsException
                knotAt(0, 0) = throws.IndexOutOfBoundsException
                """);
        Runs.of(16, "Returns the knot of this kind that has it.", SPILLING + """
                knotAt(0, 0) = 5
                knotAt(0, 1) = 4
                knotAt(0, 2) = 6
                knotAt(0, 3) = 3
                knotAt(1, 0) = 1
                knotAt(1, 1) = 2
                knotAt(1, 2) = 0
                addKnot(0, 70, 4) = 7
                knotAt(0, 1) = 7
                knotAt(0, 2) = 4
                """);
    }

    /** For a question that takes a knot and a load, and has the same answer for the knot 0 of PLAIN under each load. */
    private static void noSuchKnotOrLoad(int promise, String name, int answer) {
        String index = " = throws.IndexOutOfBoundsException\n";
        String argument = " = throws.IllegalArgumentException\n";
        String accepted = " = " + answer + "\n";
        StringBuilder knots = new StringBuilder(PLAIN);
        StringBuilder loads = new StringBuilder(PLAIN);
        StringBuilder both = new StringBuilder(PLAIN);
        for (String none : new String[] {"-1", "2", "15", "16", "MIN", "MAX"}) {
            knots.append(name).append("(").append(none).append(", 1)").append(index);
            both.append(name).append("(").append(none).append(", 0)").append(index);
            both.append(name).append("(").append(none).append(", 1000)").append(index);
        }
        for (String none : new String[] {"0", "1000", "-1", "MIN", "MAX"}) {
            loads.append(name).append("(0, ").append(none).append(")").append(argument);
        }
        loads.append(name).append("(0, 1)").append(accepted);
        loads.append(name).append("(0, 999)").append(accepted);
        Runs.of(promise, "if there is no such knot", knots.toString());
        Runs.of(promise, "if load is not 1 to 999", loads.toString());
        Runs.of(promise, FIRST_NAMED, both.toString());
    }

    private static void formOf() {
        noSuchKnotOrLoad(17, "formOf", 0);
        Runs.of(17, "if there is no such knot", CHAIN + """
                formOf(15, 999) = -1
                formOf(16, 999) = throws.IndexOutOfBoundsException
                """);
        Runs.of(17, SPILLS_FORM, FIVE + """
                formOf(1, 999) = 1
                setSpill(1, 100, 0)
                formOf(1, 1) = 1
                formOf(1, 99) = 1
                formOf(1, 100) = 0
                formOf(1, 101) = 0
                setSpill(1, 999, 0)
                formOf(1, 998) = 1
                formOf(1, 999) = 0
                setSpill(1, 1, 0)
                formOf(1, 1) = 0
                """);
        Runs.of(17, "otherwise the form under this load of that into which it spills", SPILLING + """
                formOf(5, 199) = 5
                formOf(5, 200) = 3
                setSpill(4, 201, 3)
                formOf(5, 200) = 4
                formOf(5, 201) = 3
                setSpill(4, 200, -1)
                formOf(5, 199) = 5
                formOf(5, 200) = -1
                """);
        Runs.of(17, "otherwise the form under this load of that into which it spills", CHAIN + """
                formOf(15, 1) = 14
                formOf(15, 8) = 7
                formOf(15, 15) = 0
                formOf(14, 1) = 14
                """);
        Runs.of(17, "none, if this is nothing", SPILLING + """
                formOf(2, 59) = 2
                formOf(2, 60) = -1
                formOf(2, 999) = -1
                """);
        Runs.of(17, "Returns its form under it; -1 for none.", CHAIN + """
                formOf(15, 16) = -1
                formOf(0, 15) = 0
                formOf(0, 16) = -1
                """);
    }

    private static void spills() {
        noSuchKnotOrLoad(18, "spills", 0);
        Runs.of(18, "if there is no such knot", CHAIN + """
                spills(15, 999) = 16
                spills(16, 999) = throws.IndexOutOfBoundsException
                """);
        Runs.of(18, "Returns how often it spills under it", FIVE + """
                spills(1, 999) = 0
                setSpill(1, 100, 0)
                spills(1, 99) = 0
                spills(1, 100) = 1
                setSpill(1, 100, -1)
                spills(1, 99) = 0
                spills(1, 100) = 1
                """);
        Runs.of(18, "one form behind the other", SPILLING + """
                spills(5, 199) = 0
                spills(5, 200) = 2
                setSpill(4, 201, 3)
                spills(5, 200) = 1
                spills(5, 201) = 2
                """);
        Runs.of(18, "one form behind the other", CHAIN + """
                spills(15, 1) = 1
                spills(15, 2) = 2
                spills(15, 15) = 15
                spills(15, 16) = 16
                spills(14, 1) = 0
                """);
    }

    private static void fallsApartAt() {
        noSuchKnot(19, "fallsApartAt", 0);
        Runs.of(19, "Returns the least load under which it has no form", FIVE + """
                setSpill(0, 1, -1)
                fallsApartAt(0) = 1
                setSpill(0, 999, -1)
                fallsApartAt(0) = 999
                """);
        Runs.of(19, "Returns the least load under which it has no form", FIVE + """
                setSpill(0, 70, -1)
                setSpill(1, 69, 0)
                fallsApartAt(1) = 70
                setSpill(1, 70, 0)
                fallsApartAt(1) = 70
                setSpill(1, 71, 0)
                fallsApartAt(1) = 71
                fallsApartAt(0) = 70
                setSpill(4, 1, 1)
                fallsApartAt(4) = 71
                """);
        Runs.of(19, "Returns the least load under which it has no form", CHAIN + """
                fallsApartAt(15) = 16
                fallsApartAt(0) = 16
                setSpill(7, 900, 6)
                fallsApartAt(15) = 900
                fallsApartAt(6) = 16
                """);
        Runs.of(19, "0 if it has one under each", FIVE + """
                fallsApartAt(0) = 0
                setSpill(1, 1, 0)
                fallsApartAt(1) = 0
                setSpill(4, 1, 1)
                fallsApartAt(4) = 0
                setSpill(0, 500, -1)
                fallsApartAt(4) = 500
                """);
    }

    /** For a question that takes a line alone: a line that is gone and one of one rope, then all six. */
    private static void noSuchLine(int promise, String name, long answerOfLast) {
        String refused = "(%s) = throws.IndexOutOfBoundsException\n";
        StringBuilder rows = new StringBuilder(GONE);
        for (String none : new String[] {"-1", "2", "5", "6", "MIN", "MAX"}) {
            rows.append(name).append(String.format(refused, none));
        }
        rows.append("4 x tie(0, 33)\n");
        rows.append(name).append("(5) = ").append(answerOfLast).append('\n');
        rows.append(name).append(String.format(refused, "6"));
        rows.append(name).append(String.format(refused, "-1"));
        Runs.of(promise, "if there is no such line", rows.toString());
    }

    private static void lines() {
        Runs.of(20, "Returns how many lines there are", PLAIN + """
                lines() = 0
                tie(0, 5)
                lines() = 1
                join(0, 1, 5)
                lines() = 1
                5 x tie(0, 5)
                lines() = 6
                tie(0, 5) = throws.IllegalStateException
                lines() = 6
                """);
        Runs.of(20, "those that are gone as well", PLAIN + """
                tie(0, 5)
                tie(0, 5)
                pull(0, 6) = 0
                lines() = 2
                pull(1, 6) = 0
                lines() = 2
                """);
        noSuchLine(21, "ropesOf", 1);
        Runs.of(21, "Returns how many ropes it has", PLAIN + """
                tie(0, 5)
                ropesOf(0) = 1
                join(0, 1, 5)
                ropesOf(0) = 2
                3 x join(0, 1, 5)
                ropesOf(0) = 5
                join(0, 1, 5) = throws.IllegalStateException
                ropesOf(0) = 5
                """);
        Runs.of(21, "0 if it is gone", FULL + """
                pull(0, 501) = 0
                ropesOf(0) = 0
                """);
    }

    /** For a question that takes a line and a place: one rope, then five, then three, then none. */
    private static void noSuchPlace(int promise, String name, String answerOfLast) {
        String index = " = throws.IndexOutOfBoundsException\n";
        StringBuilder rows = new StringBuilder(GONE);
        for (String none : new String[] {"-1", "1", "5", "MIN", "MAX"}) {
            rows.append(name).append("(1, ").append(none).append(")").append(index);
        }
        rows.append("4 x join(1, 1, 400)\n");
        rows.append(name).append("(1, 4) = ").append(answerOfLast).append('\n');
        rows.append(name).append("(1, 5)").append(index);
        rows.append(name).append("(1, -1)").append(index);
        rows.append("pull(1, 450) = 1\n");
        rows.append("join(1, 1, 400) = 2\n");
        rows.append(name).append("(1, 1) = ").append(answerOfLast).append('\n');
        rows.append(name).append("(1, 2)").append(index);
        Runs.of(promise, "or place of it", rows.toString());

        StringBuilder lines = new StringBuilder(GONE);
        for (String none : new String[] {"-1", "2", "5", "6", "MIN", "MAX"}) {
            lines.append(name).append("(").append(none).append(", 0)").append(index);
        }
        lines.append("4 x tie(0, 400)\n");
        lines.append(name).append("(6, 0)").append(index);
        Runs.of(promise, "if there is no such line", lines.toString());

        Runs.of(promise, GONE_HAS_NONE, GONE + name + "(0, 0)" + index + name + "(0, 1)" + index);
    }

    private static void knotOf() {
        noSuchPlace(22, "knotOf", "1");
        Runs.of(22, "Returns the knot there.", SPILLING + """
                tie(2, 5)
                tie(1, 5)
                join(0, 5, 5)
                join(0, 3, 5)
                join(0, 6, 5)
                join(0, 4, 5)
                knotOf(0, 0) = 2
                knotOf(0, 1) = 5
                knotOf(0, 2) = 3
                knotOf(0, 3) = 6
                knotOf(0, 4) = 4
                knotOf(1, 0) = 1
                """);
    }

    private static void strengthAt() {
        noSuchPlace(23, "strengthAt", "400");
        Runs.of(23, "that of its rope", PLAIN + """
                tie(0, 300)
                strengthAt(0, 0) = 300
                join(0, 1, 20)
                strengthAt(0, 0) = 300
                """);
        Runs.of(23, "or of the weaker one of its two ropes", PLAIN + """
                tie(0, 300)
                join(0, 1, 299)
                join(0, 1, 300)
                join(0, 1, 300)
                join(0, 1, 1)
                strengthAt(0, 1) = 299
                strengthAt(0, 2) = 299
                strengthAt(0, 3) = 300
                strengthAt(0, 4) = 1
                """);
        Runs.of(23, "or of the weaker one of its two ropes", PLAIN + """
                tie(0, 200)
                join(0, 1, 201)
                join(0, 1, 202)
                join(0, 1, 202)
                join(0, 1, 999)
                strengthAt(0, 1) = 200
                strengthAt(0, 2) = 201
                strengthAt(0, 3) = 202
                strengthAt(0, 4) = 202
                """);
        Runs.of(23, "or of the weaker one of its two ropes", PLAIN + """
                5 x tie(0, 1)
                tie(0, 300)
                join(5, 1, 200)
                tie(0, 1) = throws.IllegalStateException
                strengthAt(5, 0) = 300
                strengthAt(5, 1) = 200
                """);
        Runs.of(23, "All numbers are whole, and / is cut towards 0.", """
                addKnot(1, 99, 1) = 0
                addKnot(0, 50, 1) = 1
                addKnot(0, 10, 1) = 2
                tie(0, 1)
                strengthAt(0, 0) = 0
                tie(0, 999)
                strengthAt(1, 0) = 989
                join(1, 1, 199)
                strengthAt(1, 1) = 99
                join(1, 2, 9)
                strengthAt(1, 2) = 0
                tie(0, 999)
                join(2, 2, 10)
                strengthAt(2, 1) = 1
                join(2, 2, 19)
                strengthAt(2, 2) = 1
                """);
        Runs.of(23, "Returns the strength of this place with the knot as it is.", """
                addKnot(1, 40, 1) = 0
                addKnot(1, 80, 1) = 1
                setSpill(1, 1, 0)
                setSpill(0, 1, -1)
                tie(1, 500)
                strengthAt(0, 0) = 400
                retie(0, 0, 0) = 1
                strengthAt(0, 0) = 200
                """);
    }

    private static void weakestPlace() {
        noSuchLine(24, "weakestPlace", 0);
        Runs.of(24, "of several the first one", PLAIN + """
                tie(0, 70)
                join(0, 1, 40)
                join(0, 1, 40)
                join(0, 1, 90)
                join(0, 1, 40)
                weakestPlace(0) = 1
                """);
        Runs.of(24, "of several the first one", PLAIN + """
                tie(0, 70)
                4 x join(0, 1, 70)
                weakestPlace(0) = 0
                """);
        Runs.of(24, "Returns the place with the least strengthAt()", FULL + """
                weakestPlace(0) = 4
                pull(0, 101) = 4
                weakestPlace(0) = 3
                tie(0, 5)
                weakestPlace(1) = 0
                """);
        Runs.of(24, "Returns the place with the least strengthAt()", """
                addKnot(1, 10, 1) = 0
                addKnot(0, 100, 1) = 1
                tie(0, 100)
                join(0, 1, 11)
                weakestPlace(0) = 0
                join(0, 1, 9)
                weakestPlace(0) = 2
                tie(0, 9)
                join(1, 1, 1)
                weakestPlace(1) = 0
                """);
        Runs.of(24, "Returns the place with the least strengthAt()", """
                addKnot(1, 100, 1) = 0
                addKnot(0, 50, 1) = 1
                setSpill(0, 1, -1)
                tie(0, 100)
                join(0, 1, 100)
                weakestPlace(0) = 1
                """);
        Runs.of(24, "-1 if it is gone", GONE + """
                weakestPlace(0) = -1
                weakestPlace(1) = 0
                """);
    }

    /** For a question that takes a line and a load: the line 0 is gone, the line 1 holds all loads. */
    private static void noSuchLineOrLoad(int promise, String name, String ofGone, String ofStrong) {
        String index = " = throws.IndexOutOfBoundsException\n";
        String argument = " = throws.IllegalArgumentException\n";
        String lines = PLAIN + "tie(0, 10)\npull(0, 11) = 0\ntie(0, 999)\n";
        StringBuilder noLine = new StringBuilder(lines);
        StringBuilder noLoad = new StringBuilder(lines);
        StringBuilder both = new StringBuilder(lines);
        for (String none : new String[] {"-1", "2", "5", "6", "MIN", "MAX"}) {
            noLine.append(name).append("(").append(none).append(", 1)").append(index);
            both.append(name).append("(").append(none).append(", 0)").append(index);
            both.append(name).append("(").append(none).append(", 1000)").append(index);
        }
        noLine.append("4 x tie(0, 999)\n");
        noLine.append(name).append("(5, 999) = ").append(ofStrong).append('\n');
        noLine.append(name).append("(6, 999)").append(index);
        for (String none : new String[] {"0", "1000", "-1", "MIN", "MAX"}) {
            noLoad.append(name).append("(1, ").append(none).append(")").append(argument);
            noLoad.append(name).append("(0, ").append(none).append(")").append(argument);
        }
        for (String load : new String[] {"1", "999"}) {
            noLoad.append(name).append("(1, ").append(load).append(") = ").append(ofStrong).append('\n');
            noLoad.append(name).append("(0, ").append(load).append(") = ").append(ofGone).append('\n');
        }
        Runs.of(promise, "if there is no such line", noLine.toString());
        Runs.of(promise, "if load is not 1 to 999", noLoad.toString());
        Runs.of(promise, FIRST_NAMED, both.toString());
    }

    private static void holds() {
        noSuchLineOrLoad(25, "holds", "false", "true");
        Runs.of(25, OR_MORE, FIVE + """
                tie(0, 300)
                holds(0, 1) = true
                holds(0, 149) = true
                holds(0, 150) = true
                holds(0, 151) = false
                """);
        Runs.of(25, "A place holds a load, if its knot has a form under it", SPILLING + """
                tie(2, 999)
                holds(0, 59) = true
                holds(0, 60) = false
                """);
        Runs.of(25, OR_MORE, """
                addKnot(1, 100, 1) = 0
                addKnot(1, 20, 1) = 1
                setSpill(1, 50, 0)
                tie(1, 100)
                holds(0, 20) = true
                holds(0, 21) = false
                holds(0, 49) = false
                holds(0, 50) = true
                holds(0, 100) = true
                holds(0, 101) = false
                """);
        Runs.of(25, "A line holds a load, if all of its places do.", FULL + """
                holds(0, 100) = true
                holds(0, 101) = false
                """);
        Runs.of(25, "A line holds a load, if all of its places do.", PLAIN + """
                tie(0, 50)
                4 x join(0, 1, 999)
                holds(0, 50) = true
                holds(0, 51) = false
                """);
        Runs.of(25, "false if it is gone", GONE + """
                holds(0, 1) = false
                holds(0, 999) = false
                holds(1, 1) = true
                """);
        Runs.of(25, "(nothing is changed)", SPILLING + """
                tie(1, 999)
                join(0, 4, 999)
                holds(0, 100) = true
                holds(0, 999) = false
                knotOf(0, 0) = 1
                knotOf(0, 1) = 4
                ropesOf(0) = 2
                """);
    }

    private static void holdsUpTo() {
        noSuchLine(26, "holdsUpTo", 33);
        Runs.of(26, "0 to 999", PLAIN + """
                tie(0, 999)
                holdsUpTo(0) = 999
                4 x join(0, 1, 999)
                holdsUpTo(0) = 999
                tie(0, 998)
                holdsUpTo(1) = 998
                tie(0, 1)
                holdsUpTo(2) = 1
                """);
        Runs.of(26, "0 to 999", """
                addKnot(1, 99, 1) = 0
                addKnot(0, 100, 1) = 1
                tie(0, 1)
                holdsUpTo(0) = 0
                tie(0, 2)
                holdsUpTo(1) = 1
                join(1, 1, 999)
                holdsUpTo(1) = 1
                """);
        Runs.of(26, "0 to 999", PLAIN + """
                tie(0, 999)
                setSpill(0, 1, -1)
                holdsUpTo(0) = 0
                setSpill(0, 2, -1)
                holdsUpTo(0) = 1
                setSpill(0, 999, -1)
                holdsUpTo(0) = 998
                """);
        Runs.of(26, "Returns the greatest load up to which it holds each one", """
                addKnot(1, 100, 1) = 0
                addKnot(1, 20, 1) = 1
                setSpill(1, 50, 0)
                tie(1, 100)
                holdsUpTo(0) = 20
                setSpill(1, 22, 0)
                holdsUpTo(0) = 20
                setSpill(1, 21, 0)
                holdsUpTo(0) = 100
                setSpill(1, 20, 0)
                holdsUpTo(0) = 100
                setSpill(0, 90, -1)
                holdsUpTo(0) = 89
                """);
        Runs.of(26, "Returns the greatest load up to which it holds each one", """
                addKnot(1, 100, 1) = 0
                addKnot(1, 10, 1) = 1
                addKnot(1, 90, 1) = 2
                setSpill(2, 50, 1)
                setSpill(1, 50, 0)
                tie(2, 100)
                holdsUpTo(0) = 100
                setSpill(1, 49, 0)
                holdsUpTo(0) = 100
                setSpill(1, 51, 0)
                holdsUpTo(0) = 49
                """);
        Runs.of(26, "Returns the greatest load up to which it holds each one", SPILLING + """
                tie(1, 300)
                holdsUpTo(0) = 150
                tie(1, 150)
                holdsUpTo(1) = 99
                tie(1, 100)
                holdsUpTo(2) = 90
                join(0, 5, 999)
                holdsUpTo(0) = 150
                join(0, 4, 70)
                holdsUpTo(0) = 29
                """);
        Runs.of(26, "Returns the greatest load up to which it holds each one", CHAIN + """
                tie(15, 999)
                holdsUpTo(0) = 15
                tie(15, 50)
                holdsUpTo(1) = 8
                """);
        Runs.of(26, GONE_HAS_NONE, GONE + """
                holdsUpTo(0) = 0
                holdsUpTo(1) = 500
                """);
        Runs.of(26, "(nothing is changed)", SPILLING + """
                tie(1, 300)
                join(0, 4, 70)
                holdsUpTo(0) = 29
                knotOf(0, 0) = 1
                knotOf(0, 1) = 4
                ropesOf(0) = 2
                """);
    }

    private static void wouldGiveWay() {
        noSuchLineOrLoad(27, "wouldGiveWay", "-1", "-1");
        Runs.of(27, "Returns the place that would give way under it", FULL + """
                wouldGiveWay(0, 100) = -1
                wouldGiveWay(0, 101) = 4
                wouldGiveWay(0, 201) = 3
                wouldGiveWay(0, 301) = 2
                wouldGiveWay(0, 401) = 1
                wouldGiveWay(0, 500) = 1
                wouldGiveWay(0, 501) = 0
                """);
        Runs.of(27, "the first place that does not hold it gives way", PLAIN + """
                tie(0, 100)
                join(0, 1, 50)
                join(0, 1, 20)
                wouldGiveWay(0, 50) = 2
                wouldGiveWay(0, 51) = 1
                """);
        Runs.of(27, "A place holds a load, if its knot has a form under it", SPILLING + """
                tie(2, 999)
                wouldGiveWay(0, 59) = -1
                wouldGiveWay(0, 60) = 0
                """);
        Runs.of(27, "-1 for none", SPILLING + """
                tie(1, 150)
                wouldGiveWay(0, 99) = -1
                wouldGiveWay(0, 100) = 0
                retie(0, 0, 0) = 1
                wouldGiveWay(0, 75) = -1
                wouldGiveWay(0, 76) = 0
                """);
        Runs.of(27, "or if it is gone", GONE + """
                wouldGiveWay(0, 1) = -1
                wouldGiveWay(0, 999) = -1
                wouldGiveWay(1, 999) = 0
                """);
        Runs.of(27, "(nothing is changed)", SPILLING + """
                tie(1, 999)
                join(0, 4, 20)
                wouldGiveWay(0, 100) = 1
                wouldGiveWay(0, 8) = -1
                knotOf(0, 0) = 1
                knotOf(0, 1) = 4
                ropesOf(0) = 2
                """);
    }

    private static void bestKnot() {
        noSuchPlace(28, "bestKnot", "1");
        Runs.of(28, "of those of the right kind", """
                addKnot(1, 10, 9) = 0
                addKnot(0, 100, 1) = 1
                tie(0, 500)
                join(0, 1, 500)
                bestKnot(0, 0) = 0
                bestKnot(0, 1) = 1
                """);
        Runs.of(28, "of those of the right kind", """
                addKnot(1, 100, 1) = 0
                addKnot(0, 10, 9) = 1
                tie(0, 500)
                join(0, 1, 500)
                bestKnot(0, 0) = 0
                bestKnot(0, 1) = 1
                """);
        Runs.of(28, "so that holdsUpTo() is the greatest", """
                addKnot(1, 100, 1) = 0
                addKnot(1, 60, 9) = 1
                setSpill(0, 50, -1)
                tie(0, 100)
                bestKnot(0, 0) = 1
                tie(0, 84)
                bestKnot(1, 0) = 1
                tie(0, 83)
                bestKnot(2, 0) = 0
                tie(1, 83)
                bestKnot(3, 0) = 0
                """);
        Runs.of(28, "so that holdsUpTo() is the greatest", """
                addKnot(1, 100, 1) = 0
                addKnot(1, 20, 1) = 1
                addKnot(1, 21, 1) = 2
                setSpill(0, 1, -1)
                tie(0, 100)
                bestKnot(0, 0) = 2
                setSpill(1, 50, 0)
                bestKnot(0, 0) = 2
                """);
        Runs.of(28, "so that holdsUpTo() is the greatest", """
                15 x addKnot(1, 100, 1)
                addKnot(1, 10, 9) = 15
                setSpill(0, 5, -1)
                setSpill(1, 5, -1)
                setSpill(2, 5, -1)
                setSpill(3, 5, 0)
                setSpill(4, 5, 0)
                setSpill(5, 5, 0)
                setSpill(6, 5, 0)
                setSpill(7, 5, 0)
                setSpill(8, 5, 0)
                setSpill(9, 5, 0)
                setSpill(10, 5, 0)
                setSpill(11, 5, 0)
                setSpill(12, 5, 0)
                setSpill(13, 5, 0)
                setSpill(14, 5, 0)
                tie(0, 100)
                bestKnot(0, 0) = 15
                tie(15, 49)
                bestKnot(1, 0) = 0
                """);
        Runs.of(28, "of several the one with the smaller rank", """
                addKnot(0, 60, 5) = 0
                addKnot(0, 60, 4) = 1
                addKnot(0, 60, 4) = 2
                addKnot(1, 100, 1) = 3
                tie(3, 300)
                join(0, 0, 300)
                bestKnot(0, 1) = 1
                join(0, 2, 300)
                bestKnot(0, 2) = 1
                """);
        Runs.of(28, "of several the one with the smaller rank", """
                addKnot(1, 10, 1) = 0
                addKnot(1, 19, 9) = 1
                addKnot(0, 40, 1) = 2
                tie(0, 10)
                bestKnot(0, 0) = 1
                addKnot(1, 20, 9) = 3
                bestKnot(0, 0) = 3
                tie(0, 900)
                join(1, 2, 100)
                bestKnot(1, 0) = 3
                """);
        Runs.of(28, "of several the one with the smaller rank", """
                addKnot(1, 50, 5) = 0
                addKnot(1, 60, 5) = 1
                tie(0, 1)
                bestKnot(0, 0) = 1
                """);
        Runs.of(28, "(nothing is changed)", SPILLING + """
                tie(2, 300)
                join(0, 3, 300)
                bestKnot(0, 0) = 1
                bestKnot(0, 1) = 5
                knotOf(0, 0) = 2
                knotOf(0, 1) = 3
                holdsUpTo(0) = 59
                """);
    }

    private static void strongestLine() {
        Runs.of(29, "-1 without lines", PLAIN + """
                strongestLine() = -1
                tie(0, 1)
                strongestLine() = 0
                """);
        Runs.of(29, "Returns the line with the greatest holdsUpTo()", PLAIN + """
                tie(0, 30)
                tie(0, 80)
                strongestLine() = 1
                3 x tie(0, 30)
                tie(0, 81)
                strongestLine() = 5
                join(5, 1, 79)
                strongestLine() = 1
                """);
        Runs.of(29, "of several the smallest number", PLAIN + """
                tie(0, 30)
                tie(0, 80)
                tie(0, 80)
                strongestLine() = 1
                join(1, 1, 29)
                strongestLine() = 2
                join(2, 1, 30)
                strongestLine() = 0
                """);
        Runs.of(29, GONE_HAS_NONE, PLAIN + """
                tie(0, 80)
                tie(0, 1)
                strongestLine() = 0
                pull(0, 81) = 0
                strongestLine() = 1
                pull(1, 2) = 0
                strongestLine() = 0
                """);
        Runs.of(29, "of several the smallest number", """
                addKnot(1, 99, 1) = 0
                tie(0, 1)
                tie(0, 1)
                strongestLine() = 0
                pull(0, 1) = 0
                strongestLine() = 0
                """);
        Runs.of(29, "(nothing is changed)", SPILLING + """
                tie(1, 300)
                tie(2, 300)
                strongestLine() = 0
                knotOf(0, 0) = 1
                knotOf(1, 0) = 2
                """);
    }

    private static void meanEfficiency() {
        Runs.of(30, "0 without any", """
                meanEfficiency() = 0.0
                addKnot(1, 10, 1)
                meanEfficiency() = 10.0
                """);
        Runs.of(30, "Returns the mean efficiency of knots", """
                addKnot(0, 51, 1)
                meanEfficiency() = 51.0
                addKnot(1, 60, 9)
                meanEfficiency() = 55.5
                addKnot(1, 60, 1)
                meanEfficiency() = 57.0
                addKnot(1, 60, 1)
                2 x addKnot(0, 61, 1)
                meanEfficiency() = 58.833333333333336
                10 x addKnot(0, 100, 1)
                meanEfficiency() = 84.5625
                """);
        Runs.of(30, "Returns the mean efficiency of knots", """
                16 x addKnot(0, 100, 1)
                meanEfficiency() = 100.0
                """);
    }

    private static void digest() {
        Runs.of(31, "A number d starts with 2063", """
                digest() = 61458832
                digest() = checksum(0, 0, -1)
                """);
        Runs.of(31, "knots(), lines(), strongestLine()", PLAIN + """
                digest() = checksum(2, 0, -1,  1, 100, 1, 0, -1, 0, 0,  0, 100, 1, 0, -1, 0, 0)
                """);
        Runs.of(31, "for each knot kindOf(), efficiencyOf(), crossingsOf(), spillsAt(), spillsInto(), rankOf(), fallsApartAt()", """
                addKnot(1, 90, 7)
                digest() = checksum(1, 0, -1,  1, 90, 7, 0, -1, 0, 0)
                setSpill(0, 60, -1)
                digest() = checksum(1, 0, -1,  1, 90, 7, 60, -1, 0, 60)
                addKnot(1, 95, 8)
                setSpill(1, 50, 0)
                digest() = checksum(2, 0, -1,  1, 90, 7, 60, -1, 1, 60,  1, 95, 8, 50, 0, 0, 60)
                """);
        Runs.of(31, "for each line ropesOf(), holdsUpTo(), weakestPlace(), and for each place of it knotOf(), strengthAt()", PLAIN + """
                tie(0, 300)
                join(0, 1, 200)
                tie(0, 100)
                digest() = checksum(2, 2, 0,  1, 100, 1, 0, -1, 0, 0,  0, 100, 1, 0, -1, 0, 0, \
                  2, 200, 1, 0, 300, 1, 200,  1, 100, 0, 0, 100)
                """);
        Runs.of(31, GONE_HAS_NONE, """
                addKnot(1, 100, 1)
                tie(0, 300)
                pull(0, 301) = 0
                digest() = checksum(1, 1, 0,  1, 100, 1, 0, -1, 0, 0,  0, 0, -1)
                """);
        // The ten numbers of one knot are the most that do not wrap around; with a line that is gone there are 13.
        Runs.of(31, "which wraps around as a 64-bit integer", """
                addKnot(1, 100, 1)
                digest() = 1690919571902280364
                tie(0, 300)
                digest() = -7493884489891159819
                pull(0, 301) = 0
                digest() = -3846870654767753741
                """);
    }

    public static void main(String[] args) {
        newObject();
        fullUse();
        addKnot();
        setSpill();
        tie();
        join();
        retie();
        pullRefused();
        pull();
        knots();
        whatKnotsAre();
        ranks();
        knotAt();
        formOf();
        spills();
        fallsApartAt();
        lines();
        knotOf();
        strengthAt();
        weakestPlace();
        holds();
        holdsUpTo();
        wouldGiveWay();
        bestKnot();
        strongestLine();
        meanEfficiency();
        digest();
        Runs.end();
    }
}
