import java.io.IOException;
import java.lang.reflect.InvocationTargetException;
import java.lang.reflect.Method;
import java.lang.reflect.Modifier;
import java.math.BigInteger;
import java.nio.file.Files;
import java.nio.file.Path;
import java.util.ArrayList;
import java.util.HashMap;
import java.util.List;
import java.util.Map;
import java.util.Set;
import java.util.TreeSet;
import java.util.regex.Matcher;
import java.util.regex.Pattern;

/**
 * Runs of calls on a new object, written as rows. A row is a call, or a call and the answer that is due:
 *
 *     15 x addKnot(1, 50, 5)
 *     addKnot(1, 50, 5) = 15
 *     addKnot(1, 50, 5) = throws.IllegalStateException
 *     knotsOf(MAX) = throws.IndexOutOfBoundsException
 *     digest() = checksum(0, 0, -1)
 *
 * MIN and MAX are the least and the greatest int; a checksum is that of promise 31 over the numbers in it.
 * Behind each call that throws, and each one that only asks, the object is taken to pieces and compared with one
 * that was made by the same calls without it: nothing may be changed.
 */
final class Runs {
    private static final int MAX_CALLS = 512;
    private static final int PROMISES = 31;
    private static final Path DOCUMENT = Path.of("../shared/DOC.md");
    /** Of each promise its text; ahead of them, what holds of all calls. */
    private static final String[] SECTIONS = sections();

    private static final Pattern ROW = Pattern.compile("(?:(\\d+) x )?(\\w+)\\(([^)]*)\\)(?: = (.+))?");
    private static final Set<String> CHANGING = Set.of("addKnot", "setSpill", "tie", "join", "retie", "pull");
    private static final Map<String, Method> FACE = face();

    /** The promises that have a run, and the exceptions that were due in one. */
    private static final Set<String> covered = new TreeSet<>();
    private static int ran = 0;
    private static int rowsRan = 0;
    private static int wrong = 0;

    private final int promise;
    private final String sentence;
    private final List<Row> rows = new ArrayList<>();

    /** What is done over again for a twin: the calls that were answered and that may change something. */
    private final List<Row> changes = new ArrayList<>();

    private record Row(int times, String name, int[] arguments, String due) {
        @Override
        public String toString() {
            StringBuilder text = new StringBuilder(name).append('(');
            for (int i = 0; i < arguments.length; i++) {
                text.append(i == 0 ? "" : ", ").append(arguments[i]);
            }
            return text.append(')').toString();
        }
    }

    /** An object that counts its calls, because nothing is promised behind the 512th. */
    private static final class Counted {
        private final KnotRack rack = new KnotRack();
        private int calls = 0;

        String answer(String name, int... arguments) {
            calls++;
            if (calls > MAX_CALLS) {
                throw new AssertionError("a run of over " + MAX_CALLS + " calls");
            }
            Object[] boxed = new Object[arguments.length];
            for (int i = 0; i < boxed.length; i++) {
                boxed[i] = arguments[i];
            }
            try {
                return String.valueOf(FACE.get(name).invoke(rack, boxed));
            } catch (InvocationTargetException e) {
                return thrown(e.getCause());
            } catch (IllegalAccessException e) {
                throw new AssertionError(e);
            }
        }

        int number(String name, int... arguments) {
            String answer = answer(name, arguments);
            return answer.matches("-?\\d{1,9}") ? Integer.parseInt(answer) : -1;
        }

        /** The last answer. */
        String play(Row row) {
            String last = "";
            for (int i = 0; i < row.times(); i++) {
                last = answer(row.name(), row.arguments());
            }
            return last;
        }
    }

    /** The very class counts, and the class's own code has to throw it: no machine or library exception passes. */
    private static String thrown(Throwable e) {
        StackTraceElement[] trace = e.getStackTrace();
        boolean ownThrow = trace.length > 0 && trace[0].getClassName().startsWith("KnotRack");
        return "throws." + e.getClass().getSimpleName() + (ownThrow ? "" : " out of the library");
    }

    private static Map<String, Method> face() {
        Map<String, Method> face = new HashMap<>();
        for (Method method : KnotRack.class.getDeclaredMethods()) {
            if (Modifier.isPublic(method.getModifiers())) {
                face.put(method.getName(), method);
            }
        }
        return face;
    }

    private Runs(int promise, String sentence, String text) {
        this.promise = promise;
        this.sentence = sentence;
        for (String line : text.split("\n")) {
            if (!line.isBlank()) {
                rows.add(row(line.strip()));
            }
        }
    }

    private static Row row(String line) {
        Matcher matcher = ROW.matcher(line);
        if (!matcher.matches() || !FACE.containsKey(matcher.group(2))) {
            throw new AssertionError("not a row: " + line);
        }
        int times = matcher.group(1) == null ? 1 : Integer.parseInt(matcher.group(1));
        return new Row(times, matcher.group(2), numbers(matcher.group(3)), due(matcher.group(4)));
    }

    private static int[] numbers(String text) {
        if (text.isBlank()) {
            return new int[0];
        }
        String[] parts = text.split(",");
        int[] numbers = new int[parts.length];
        for (int i = 0; i < parts.length; i++) {
            numbers[i] = number(parts[i].strip());
        }
        return numbers;
    }

    private static int number(String text) {
        return switch (text) {
            case "MIN" -> Integer.MIN_VALUE;
            case "MAX" -> Integer.MAX_VALUE;
            default -> Integer.parseInt(text);
        };
    }

    private static String due(String text) {
        if (text == null || !text.startsWith("checksum(")) {
            return text;
        }
        return String.valueOf(checksum(numbers(text.substring("checksum(".length(), text.length() - 1))));
    }

    /** In whole numbers without a bound, cut to 64 bits at the end alone. */
    private static long checksum(int[] numbers) {
        BigInteger d = BigInteger.valueOf(2063);
        for (int x : numbers) {
            d = d.multiply(BigInteger.valueOf(31)).add(BigInteger.valueOf(x));
        }
        return d.longValue();
    }

    /** A sentence of a promise, as the document writes it or a part of that, and a run that fails if it is broken. */
    static void of(int promise, String sentence, String text) {
        ran++;
        covered.add(String.valueOf(promise));
        Runs run = new Runs(promise, sentence, text);
        if (!documentSays(promise, sentence)) {
            run.report("the document has no such sentence");
        }
        run.play();
    }

    private void play() {
        Counted counted = new Counted();
        for (Row row : rows) {
            rowsRan++;
            String answer = counted.play(row);
            boolean refusalDue = row.due() != null && row.due().startsWith("throws.");
            if (row.due() == null ? answer.startsWith("throws.") : !answer.equals(row.due())) {
                report(row + " answered " + answer + ", due is " + (row.due() == null ? "an answer" : row.due()));
            }
            if (refusalDue) {
                covered.add(promise + " " + row.name() + " " + row.due());
            }
            if (refusalDue || !CHANGING.contains(row.name())) {
                compareWithTwin(row);
            } else {
                changes.add(row);
            }
        }
    }

    private void compareWithTwin(Row row) {
        Counted touched = new Counted();
        Counted twin = new Counted();
        for (Row change : changes) {
            touched.play(change);
            twin.play(change);
        }
        touched.play(row);
        if (!pieces(touched).equals(pieces(twin))) {
            report(row + " changed something");
        }
    }

    private void report(String text) {
        wrong++;
        System.out.println("promise " + promise + ", \"" + sentence + "\": " + text);
    }

    // ---- all that can be learnt of an object, at the price of changing it

    private static String pieces(Counted counted) {
        StringBuilder seen = new StringBuilder();
        int knots = Math.min(16, counted.number("knots"));
        int lines = Math.min(6, counted.number("lines"));
        for (int knot = 0; knot < knots; knot++) {
            for (String name : List.of("kindOf", "efficiencyOf", "crossingsOf", "spillsAt", "spillsInto")) {
                seen.append(counted.answer(name, knot)).append(' ');
            }
        }
        for (int line = 0; line < lines; line++) {
            seen.append("| ").append(counted.answer("ropesOf", line)).append(' ');
            for (int place = 0; place < Math.min(5, counted.number("ropesOf", line)); place++) {
                seen.append(counted.answer("knotOf", line, place)).append(' ');
            }
        }
        seen.append("| ").append(counted.answer("digest")).append(' ');
        int hitch = counted.number("knotAt", 1, 0);
        int bend = counted.number("knotAt", 0, 0);
        for (int line = 0; line < lines; line++) {
            ropes(counted, line, hitch, bend, seen);
        }
        // Where the next ones go shows how many are counted.
        seen.append("| ").append(counted.answer("addKnot", 1, 100, 1));
        seen.append(' ').append(counted.answer("tie", hitch, 500));
        return seen.append(' ').append(counted.answer("digest")).toString();
    }

    /** The strengths of the ropes show behind the best knots, that of the last one ahead of a rope of 999. */
    private static void ropes(Counted counted, int line, int hitch, int bend, StringBuilder seen) {
        seen.append("| ").append(counted.answer("join", line, bend, 999)).append(' ');
        for (int place = 0; place < Math.min(5, counted.number("ropesOf", line)); place++) {
            counted.answer("retie", line, place, place == 0 ? hitch : bend);
            seen.append(counted.answer("strengthAt", line, place)).append(' ');
        }
    }

    // ---- the document

    private static String[] sections() {
        try {
            return Files.readString(DOCUMENT).split("\n## Promise \\d+: |\n## Not promised");
        } catch (IOException e) {
            throw new AssertionError("no document at " + DOCUMENT, e);
        }
    }

    private static boolean documentSays(int promise, String sentence) {
        return SECTIONS[promise].contains(sentence) || SECTIONS[0].contains(sentence);
    }

    /** Each promise has to have a run, and each exception that it names has to be due in one of its runs. */
    private static void dueForEachPromise() {
        Pattern pattern = Pattern.compile("^Throws `(\\w+)`", Pattern.MULTILINE);
        for (int promise = 1; promise <= PROMISES; promise++) {
            String name = SECTIONS[promise].lines().findFirst().orElse("").strip();
            dueInARun(String.valueOf(promise));
            Matcher matcher = pattern.matcher(SECTIONS[promise]);
            while (matcher.find()) {
                dueInARun(promise + " " + name + " throws." + matcher.group(1));
            }
        }
    }

    private static void dueInARun(String what) {
        if (!covered.contains(what)) {
            wrong++;
            System.out.println("promise " + what + ": no run asks for it");
        }
    }

    static void end() {
        dueForEachPromise();
        System.out.println(ran + " runs, " + rowsRan + " rows, " + wrong + " wrong");
        if (wrong != 0) {
            System.exit(1);
        }
    }
}
