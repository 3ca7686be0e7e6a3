import java.util.ArrayList;
import java.util.List;

/**
 * Long runs of mixed calls, answered by KnotRack and by a second program that follows the words of the document
 * as they stand, load by load and without thrift. The runs come from a fixed sequence of numbers, so they are always the same.
 */
public final class ModelTest {
    private static final int RUNS = 800;
    /** With the digest behind each call, an object stays within its 512 calls. */
    private static final int CALLS = 250;

    private static final int METHODS = 30;

    /** What a call answered, or the class that it threw. */
    private record Answer(String text) { }

    private static final class Knot {
        int number;
        int kind;
        int efficiency;
        int crossings;
        boolean spills;
        int at;
        Knot into;

        boolean isAheadOf(Knot other) {
            if (efficiency > other.efficiency) return true;
            if (efficiency < other.efficiency) return false;
            if (crossings < other.crossings) return true;
            if (crossings > other.crossings) return false;
            return number < other.number;
        }

        Knot under(int load) {
            if (!spills || at > load) return this;
            return into == null ? null : into.under(load);
        }

        int spillCount(int load) {
            if (!spills || at > load) return 0;
            return into == null ? 1 : 1 + into.spillCount(load);
        }
    }

    private static final class Line {
        final List<Knot> knots = new ArrayList<>();
        final List<Integer> ropes = new ArrayList<>();

        int strength(int place, Knot form) {
            int rope = ropes.get(place);
            if (place > 0 && ropes.get(place - 1) < rope) rope = ropes.get(place - 1);
            return rope * form.efficiency / 100;
        }

        boolean placeHolds(int place, int load) {
            Knot form = knots.get(place).under(load);
            return form != null && strength(place, form) >= load;
        }

        int firstThatFails(int load) {
            for (int place = 0; place < knots.size(); place++) {
                if (!placeHolds(place, load)) return place;
            }
            return -1;
        }

        boolean holds(int load) {
            return !knots.isEmpty() && firstThatFails(load) == -1;
        }

        int holdsUpTo() {
            int load = 0;
            while (load < 999 && holds(load + 1)) load++;
            return load;
        }
    }

    private static final class Model {
        final List<Knot> knots = new ArrayList<>();
        final List<Line> lines = new ArrayList<>();

        static void index(boolean right) {
            if (!right) throw new IndexOutOfBoundsException();
        }

        static void argument(boolean right) {
            if (!right) throw new IllegalArgumentException();
        }

        static void state(boolean right) {
            if (!right) throw new IllegalStateException();
        }

        static void load(int load) {
            argument(load >= 1 && load <= 999);
        }

        static void kind(int kind) {
            index(kind == 0 || kind == 1);
        }

        Knot knot(int number) {
            index(number >= 0 && number < knots.size());
            return knots.get(number);
        }

        Line line(int number) {
            index(number >= 0 && number < lines.size());
            return lines.get(number);
        }

        Line lineWith(int number, int place) {
            Line line = line(number);
            index(place >= 0 && place < line.knots.size());
            return line;
        }

        int addKnot(int kind, int efficiency, int crossings) {
            kind(kind);
            argument(efficiency >= 10 && efficiency <= 100);
            argument(crossings >= 1 && crossings <= 9);
            state(knots.size() < 16);
            Knot knot = new Knot();
            knot.number = knots.size();
            knot.kind = kind;
            knot.efficiency = efficiency;
            knot.crossings = crossings;
            knots.add(knot);
            return knot.number;
        }

        int setSpill(int number, int load, int into) {
            Knot knot = knot(number);
            load(load);
            argument(into >= -1 && into < number);
            Knot target = into == -1 ? null : knots.get(into);
            argument(target == null || target.kind == knot.kind);
            int before = knot.spills ? knot.at : 0;
            knot.spills = true;
            knot.at = load;
            knot.into = target;
            return before;
        }

        int tie(int hitch, int strength) {
            Knot knot = knot(hitch);
            argument(knot.kind == 1);
            argument(strength >= 1 && strength <= 999);
            state(lines.size() < 6);
            Line line = new Line();
            line.knots.add(knot);
            line.ropes.add(strength);
            lines.add(line);
            return lines.size() - 1;
        }

        int join(int number, int bend, int strength) {
            Line line = line(number);
            Knot knot = knot(bend);
            argument(knot.kind == 0);
            argument(strength >= 1 && strength <= 999);
            state(!line.knots.isEmpty());
            state(line.knots.size() < 5);
            line.knots.add(knot);
            line.ropes.add(strength);
            return line.ropes.size();
        }

        int retie(int number, int place, int knotNumber) {
            Line line = lineWith(number, place);
            Knot knot = knot(knotNumber);
            argument(knot.kind == (place == 0 ? 1 : 0));
            return line.knots.set(place, knot).number;
        }

        int pull(int number, int load) {
            Line line = line(number);
            load(load);
            state(!line.knots.isEmpty());
            int fails = line.firstThatFails(load);
            if (fails != -1) {
                while (line.knots.size() > fails) {
                    line.knots.remove(line.knots.size() - 1);
                    line.ropes.remove(line.ropes.size() - 1);
                }
            }
            for (int place = 0; place < line.knots.size(); place++) {
                line.knots.set(place, line.knots.get(place).under(load));
            }
            return fails;
        }

        int knotsOf(int kind) {
            kind(kind);
            int count = 0;
            for (Knot knot : knots) if (knot.kind == kind) count++;
            return count;
        }

        List<Knot> ranked(int kind) {
            List<Knot> ranked = new ArrayList<>();
            for (Knot knot : knots) if (knot.kind == kind) ranked.add(knot);
            ranked.sort((a, b) -> a == b ? 0 : a.isAheadOf(b) ? -1 : 1);
            return ranked;
        }

        int rankOf(int number) {
            Knot knot = knot(number);
            return ranked(knot.kind).indexOf(knot);
        }

        int knotAt(int kind, int rank) {
            kind(kind);
            List<Knot> ranked = ranked(kind);
            index(rank >= 0 && rank < ranked.size());
            return ranked.get(rank).number;
        }

        int spillsInto(int number) {
            Knot knot = knot(number);
            return knot.into == null ? -1 : knot.into.number;
        }

        int formOf(int number, int load) {
            Knot knot = knot(number);
            load(load);
            Knot form = knot.under(load);
            return form == null ? -1 : form.number;
        }

        int spills(int number, int load) {
            Knot knot = knot(number);
            load(load);
            return knot.spillCount(load);
        }

        int fallsApartAt(int number) {
            Knot knot = knot(number);
            for (int load = 1; load <= 999; load++) {
                if (knot.under(load) == null) return load;
            }
            return 0;
        }

        int strengthAt(int number, int place) {
            Line line = lineWith(number, place);
            return line.strength(place, line.knots.get(place));
        }

        int weakestPlace(int number) {
            Line line = line(number);
            int weakest = -1;
            for (int place = 0; place < line.knots.size(); place++) {
                if (weakest == -1 || strengthAt(number, place) < strengthAt(number, weakest)) weakest = place;
            }
            return weakest;
        }

        boolean holds(int number, int load) {
            Line line = line(number);
            load(load);
            return line.holds(load);
        }

        int wouldGiveWay(int number, int load) {
            Line line = line(number);
            load(load);
            return line.firstThatFails(load);
        }

        int bestKnot(int number, int place) {
            Line line = lineWith(number, place);
            Knot was = line.knots.get(place);
            Knot best = null;
            int greatest = 0;
            for (Knot knot : ranked(place == 0 ? 1 : 0)) {
                line.knots.set(place, knot);
                int load = line.holdsUpTo();
                if (best == null || load > greatest) {
                    best = knot;
                    greatest = load;
                }
            }
            line.knots.set(place, was);
            return best.number;
        }

        int strongestLine() {
            int strongest = -1;
            for (int line = 0; line < lines.size(); line++) {
                if (strongest == -1 || lines.get(line).holdsUpTo() > lines.get(strongest).holdsUpTo()) strongest = line;
            }
            return strongest;
        }

        double meanEfficiency() {
            if (knots.isEmpty()) return 0;
            double sum = 0;
            for (Knot knot : knots) sum += knot.efficiency;
            return sum / knots.size();
        }

        long digest() {
            List<Integer> numbers = new ArrayList<>(List.of(knots.size(), lines.size(), strongestLine()));
            for (int k = 0; k < knots.size(); k++) {
                Knot knot = knots.get(k);
                numbers.addAll(List.of(knot.kind, knot.efficiency, knot.crossings, knot.spills ? knot.at : 0));
                numbers.addAll(List.of(spillsInto(k), rankOf(k), fallsApartAt(k)));
            }
            for (int l = 0; l < lines.size(); l++) {
                Line line = lines.get(l);
                numbers.addAll(List.of(line.ropes.size(), line.holdsUpTo(), weakestPlace(l)));
                for (int p = 0; p < line.knots.size(); p++) {
                    numbers.addAll(List.of(line.knots.get(p).number, strengthAt(l, p)));
                }
            }
            long d = 2063;
            for (int x : numbers) d = d * 31 + x;
            return d;
        }

        Answer answer(int method, int a, int b, int c) {
            try {
                return new Answer(switch (method) {
                    case 0 -> "" + addKnot(a, b, c);
                    case 1 -> "" + setSpill(a, b, c);
                    case 2 -> "" + tie(a, b);
                    case 3 -> "" + join(a, b, c);
                    case 4 -> "" + retie(a, b, c);
                    case 5 -> "" + pull(a, b);
                    case 6 -> "" + knots.size();
                    case 7 -> "" + knotsOf(a);
                    case 8 -> "" + knot(a).kind;
                    case 9 -> "" + knot(a).efficiency;
                    case 10 -> "" + knot(a).crossings;
                    case 11 -> "" + (knot(a).spills ? knot(a).at : 0);
                    case 12 -> "" + spillsInto(a);
                    case 13 -> "" + rankOf(a);
                    case 14 -> "" + knotAt(a, b);
                    case 15 -> "" + formOf(a, b);
                    case 16 -> "" + spills(a, b);
                    case 17 -> "" + fallsApartAt(a);
                    case 18 -> "" + lines.size();
                    case 19 -> "" + line(a).ropes.size();
                    case 20 -> "" + lineWith(a, b).knots.get(b).number;
                    case 21 -> "" + strengthAt(a, b);
                    case 22 -> "" + weakestPlace(a);
                    case 23 -> "" + holds(a, b);
                    case 24 -> "" + line(a).holdsUpTo();
                    case 25 -> "" + wouldGiveWay(a, b);
                    case 26 -> "" + bestKnot(a, b);
                    case 27 -> "" + strongestLine();
                    case 28 -> "" + meanEfficiency();
                    default -> "" + digest();
                });
            } catch (RuntimeException e) {
                return new Answer(e.getClass().getName());
            }
        }
    }

    private static Answer answerOf(KnotRack rack, int method, int a, int b, int c) {
        try {
            return new Answer(switch (method) {
                case 0 -> "" + rack.addKnot(a, b, c);
                case 1 -> "" + rack.setSpill(a, b, c);
                case 2 -> "" + rack.tie(a, b);
                case 3 -> "" + rack.join(a, b, c);
                case 4 -> "" + rack.retie(a, b, c);
                case 5 -> "" + rack.pull(a, b);
                case 6 -> "" + rack.knots();
                case 7 -> "" + rack.knotsOf(a);
                case 8 -> "" + rack.kindOf(a);
                case 9 -> "" + rack.efficiencyOf(a);
                case 10 -> "" + rack.crossingsOf(a);
                case 11 -> "" + rack.spillsAt(a);
                case 12 -> "" + rack.spillsInto(a);
                case 13 -> "" + rack.rankOf(a);
                case 14 -> "" + rack.knotAt(a, b);
                case 15 -> "" + rack.formOf(a, b);
                case 16 -> "" + rack.spills(a, b);
                case 17 -> "" + rack.fallsApartAt(a);
                case 18 -> "" + rack.lines();
                case 19 -> "" + rack.ropesOf(a);
                case 20 -> "" + rack.knotOf(a, b);
                case 21 -> "" + rack.strengthAt(a, b);
                case 22 -> "" + rack.weakestPlace(a);
                case 23 -> "" + rack.holds(a, b);
                case 24 -> "" + rack.holdsUpTo(a);
                case 25 -> "" + rack.wouldGiveWay(a, b);
                case 26 -> "" + rack.bestKnot(a, b);
                case 27 -> "" + rack.strongestLine();
                case 28 -> "" + rack.meanEfficiency();
                default -> "" + rack.digest();
            });
        } catch (RuntimeException e) {
            return new Answer(e.getClass().getName());
        }
    }

    private static long seed = 20261120L;

    /** A number from 0 to bound - 1. */
    private static int next(int bound) {
        seed = seed * 6364136223846793005L + 1442695040888963407L;
        return (int) ((seed >>> 33) % bound);
    }

    private static int between(int least, int greatest) {
        return least + next(greatest - least + 1);
    }

    /** Mostly a number within the bounds, sometimes one just outside or far off. */
    private static int mostly(int least, int greatest) {
        switch (next(40)) {
            case 0: return least - 1;
            case 1: return greatest + 1;
            case 2: return new int[] {Integer.MIN_VALUE, Integer.MAX_VALUE, -2, 0, 16, 1000}[next(6)];
            case 3: return least;
            case 4: return greatest;
            default: return between(least, greatest);
        }
    }

    /** The loads of a run stay below its range, so that spills and strengths meet, and are often equal. */
    private static int load(int range) {
        if (next(3) == 0) return range / 10 * between(1, 9);
        return next(4) == 0 ? mostly(1, 999) : mostly(1, range);
    }

    private static int knot(Model model, int kind) {
        List<Knot> ranked = model.ranked(kind);
        if (ranked.isEmpty() || next(12) == 0) return mostly(0, Math.max(0, model.knots.size() - 1));
        return ranked.get(next(ranked.size())).number;
    }

    private static int line(Model model) {
        return mostly(0, Math.max(0, model.lines.size() - 1));
    }

    private static int place(Model model, int line) {
        if (line < 0 || line >= model.lines.size()) return mostly(0, 4);
        return mostly(0, Math.max(0, model.lines.get(line).knots.size() - 1));
    }

    private static int[] arguments(Model model, int method, int range) {
        int anyKnot = mostly(0, Math.max(0, model.knots.size() - 1));
        int line = line(model);
        int place = place(model, line);
        switch (method) {
            case 0: return new int[] {mostly(0, 1), next(2) == 0 ? mostly(10, 100) : 10 * between(4, 9), mostly(1, 9)};
            case 1: return new int[] {anyKnot, load(range), next(5) == 0 ? -1 : mostly(0, Math.max(0, Math.min(anyKnot, 16) - 1))};
            case 2: return new int[] {knot(model, 1), load(range), 0};
            case 3: return new int[] {line, knot(model, 0), load(range)};
            case 4: return new int[] {line, place, knot(model, place == 0 ? 1 : 0)};
            case 5: case 23: case 25: return new int[] {line, load(range), 0};
            case 7: return new int[] {mostly(0, 1), 0, 0};
            case 14: return new int[] {mostly(0, 1), mostly(0, 8), 0};
            case 15: case 16: return new int[] {anyKnot, load(range), 0};
            case 19: case 20: case 21: case 22: case 24: case 26: return new int[] {line, place, 0};
            default: return new int[] {anyKnot, 0, 0};
        }
    }

    /** The first calls of a run fill the catalogue; pulls stay rare, so that lines grow. */
    private static int method(int call, int fill) {
        if (call < fill) return next(6) == 0 ? 1 : 0;
        int choice = next(100);
        if (choice < 6) return 1;
        if (choice < 9) return 2;
        if (choice < 21) return 3;
        if (choice < 24) return 5;
        return next(METHODS);
    }

    private static boolean runIsRight(int run) {
        KnotRack rack = new KnotRack();
        Model model = new Model();
        int range = new int[] {999, 300, 120, 40}[run % 4];
        int fill = 3 + next(18);
        for (int call = 0; call < CALLS; call++) {
            int method = method(call, fill);
            int[] x = arguments(model, method, range);
            Answer due = model.answer(method, x[0], x[1], x[2]);
            Answer got = answerOf(rack, method, x[0], x[1], x[2]);
            long dueDigest = model.digest();
            long gotDigest = rack.digest();
            if (!got.equals(due) || gotDigest != dueDigest) {
                System.out.println("run " + run + ", call " + call + ", method " + method + " of "
                        + x[0] + ", " + x[1] + ", " + x[2] + ": " + got + ", due is " + due
                        + "; digest() then " + gotDigest + ", due is " + dueDigest);
                return false;
            }
        }
        return true;
    }

    public static void main(String[] args) {
        int wrong = 0;
        for (int run = 0; run < RUNS; run++) {
            if (!runIsRight(run)) wrong++;
        }
        System.out.println(RUNS + " runs, " + wrong + " wrong");
        if (wrong != 0) System.exit(1);
    }
}
