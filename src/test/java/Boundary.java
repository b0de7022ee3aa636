import java.io.IOException;
import java.io.UncheckedIOException;
import java.lang.reflect.InvocationTargetException;
import java.lang.reflect.Method;
import java.nio.file.Files;
import java.nio.file.Path;
import java.util.ArrayList;
import java.util.HashMap;
import java.util.HashSet;
import java.util.List;
import java.util.Map;
import java.util.Set;
import java.util.TreeSet;
import java.util.regex.Matcher;
import java.util.regex.Pattern;

/**
 * Boundary cases, each told as a script of calls on a new object, under the promise and the sentence of the
 * document that it tests. A line of a script is one call:
 *
 * <pre>
 * row(0, 3, 160)                        a call on the way there, never a refused one
 * row(0, 3, 160) = 1                    its answer is 1
 * bar(0, 1, false) = 0 same             its answer is 0, and all is as it was
 * row(0, 3, 161) ! -7                   refused: all is as it was, but one REFUSAL -7 more
 * row(8, 0, -1) ! -1 ahead of -4        two refusals at once
 * text(0, 0, eyes 1)                    a ROW of SORT 0 in SHELF 0 with these letters
 * numbers(0, 2, 1 203 -1)               a ROW of SORT 2 in SHELF 0 with these numbers
 * </pre>
 *
 * <p>Questions and refused calls are left out of a second run of the same script: nobody may see a difference.
 * PlainModel gets the script, too.
 */
final class Boundary {
    private static final int CALLS_MOST = 512;
    private static final Set<String> CHANGING = Set.of("row", "set", "copy", "show", "seats", "guest", "bar", "had",
        "eyes", "table", "clink", "goes", "change", "leaves", "feast", "seed", "act", "image", "restore", "text",
        "numbers");
    private static final int[] ELEMENTS_SEEN = {0, 1, 2, 3, 4, 5, 6, 7, 8, 9, 10, 11, 58, 59, 60, 158, 159};
    private static final Pattern LINE =
        Pattern.compile("(\\w+)\\((.*)\\)(?: ([=!]) (-?\\d+)(?: (same)| ahead of (-\\d+))?)?");
    private static final String DOCUMENT = plainly(read(Path.of("../shared/DOC.md")));
    private static final Map<String, Method> METHODS = methodsOf(NoArmsCrossed.class);
    private static final Map<String, Method> MODEL_METHODS = methodsOf(PlainModel.class);

    private static int promise = 0;
    private static String sentence = "";
    private static int tests = 0;
    private static int wrong = 0;
    private static final Map<Integer, Integer> TESTS_OF = new HashMap<>();
    /** "4 -2" for a refusal of promise 4, "4 -2 -3" for two at once. */
    private static final Set<String> SEEN = new HashSet<>();
    private static final Set<String> NEVER_BOTH = new HashSet<>();

    private Boundary() {
    }

    // ---- scripts that come again

    /** So many SEATS and plain GUESTS in SEATS 0, 1, .. */
    static String plain(int seats, int guests) {
        StringBuilder script = new StringBuilder("seats(" + seats + ")\n");
        for (int g = 0; g < guests; g++) {
            script.append("guest(0, ").append(g).append(", 0)\n");
        }
        return script.toString();
    }

    /** Only these PAIRS are WANTED of so many plain GUESTS in as many SEATS. */
    static String only(int guests, Integer... pairs) {
        StringBuilder script = new StringBuilder(plain(Math.max(3, guests), guests));
        for (int p = 0; p < guests; p++) {
            for (int q = p + 1; q < guests; q++) {
                if (!List.of(pairs).contains(100 * p + q)) {
                    script.append("had(").append(p).append(", ").append(q).append(", true)\n");
                }
            }
        }
        return script.toString();
    }

    /** All that can be somehow: GUESTS of each KIND, PAIRS, ROWS, a GUEST in a SHELF, an IMAGE, a TRACE, a FAULT. */
    static String rich() {
        return """
            seats(11)
            guest(0, 1, 3)
            guest(1, 0, 2)
            guest(2, 4, 4)
            image()
            guest(3, 2, 1)
            guest(4, 10, 0)
            guest(5, 7, 9)
            guest(6, 8, 5)
            bar(0, 4, true)
            had(2, 4, true)
            eyes(1)
            clink(0, 2)
            seed(-77)
            numbers(0, 0, 1 -1 2)
            numbers(1, 1, 300 -300)
            show(2, 0)
            show(3, 6)
            numbers(5, 3, 102 -1 203 0)
            row(6, 2, 0)
            act(6, 2, 5)
            """;
    }

    // ---- tests

    static void promise(int number) {
        promise = number;
    }

    /** A test of its own for a sentence of the document. */
    static void test(String ofDocument, String... scripts) {
        sentence = ofDocument;
        tests++;
        TESTS_OF.merge(promise, 1, Integer::sum);
        if (!DOCUMENT.contains(plainly(ofDocument))) {
            fail("the document has no such sentence");
        }
        List<Line> lines = linesOf(String.join("\n", scripts));
        playOnModel(lines);
        playAll(lines);
        for (int i = 0; i < lines.size(); i++) {
            if (lines.get(i).leavesAll()) {
                leavesAll(lines.subList(0, i), lines.get(i));
            }
        }
    }

    /** The mark ^ in the text stands where the FAULT is due. */
    static void fault(String ofDocument, String script, String marked) {
        String letters = marked.replace("^", "");
        test(ofDocument, script, "text(7, 0, " + letters + ")", "table(7) ! -6", "fault() = " + marked.indexOf('^'));
    }

    /** Two refusals of the promise that can't come at once, and why. */
    static void neverBoth(int first, int second, String why) {
        if (why.isEmpty()) {
            fail("no reason");
        }
        NEVER_BOTH.add(promise + " " + first + " " + second);
    }

    /** For what no script tells. */
    static void is(String what, long got, long due) {
        if (got != due) {
            fail(what + " answered " + got + ", due is " + due);
        }
    }

    static void end(String name, int first, int last) {
        for (int p = first; p <= last; p++) {
            promise = p;
            sentence = "";
            if (!TESTS_OF.containsKey(p)) {
                fail("has no test");
            }
            refusalsAreSeen(p);
        }
        System.out.println(name + ": " + tests + " tests, " + wrong + " wrong");
        if (wrong != 0 || tests == 0) {
            System.exit(1);
        }
    }

    private static void fail(String what) {
        wrong++;
        System.out.println("Promise " + promise + ", \"" + sentence + "\": " + what);
    }

    /** Each refusal that the promise names by itself, and each two at once. */
    private static void refusalsAreSeen(int p) {
        List<Integer> due = refusalsOf(p);
        for (int i = 0; i < due.size(); i++) {
            if (!SEEN.contains(p + " " + due.get(i))) {
                fail("no test of refusal " + due.get(i));
            }
            for (int j = i + 1; j < due.size(); j++) {
                String both = p + " " + due.get(i) + " " + due.get(j);
                if (SEEN.contains(both) == NEVER_BOTH.contains(both)) {
                    fail("refusals at once: " + both);
                }
            }
        }
    }

    private static List<Integer> refusalsOf(int p) {
        List<Integer> refusals = new ArrayList<>();
        String section = sectionOf(p).replaceAll("\\(counted as -1 to -6\\)", "").replaceAll("-1 to -7", "");
        Matcher m = Pattern.compile("(?<=[ .])-\\d+").matcher(section);
        while (m.find()) {
            refusals.add(Integer.parseInt(m.group()));
        }
        return refusals;
    }

    private static String sectionOf(int p) {
        int from = DOCUMENT.indexOf("## Promise " + p + ":");
        int to = DOCUMENT.indexOf("## ", from + 1);
        return from < 0 || to < 0 ? "" : DOCUMENT.substring(from, to);
    }

    private static String methodOf(int p) {
        Matcher m = Pattern.compile("## Promise \\d+: (\\w+)").matcher(sectionOf(p));
        return m.find() ? m.group(1) : "";
    }

    // ---- one script

    private static final class Line {
        final String method;
        final String arguments;
        final char mark;
        final long due;
        final boolean same;
        final String second;

        Line(Matcher m) {
            method = m.group(1);
            arguments = m.group(2);
            mark = m.group(3) == null ? ' ' : m.group(3).charAt(0);
            due = m.group(4) == null ? 0 : Long.parseLong(m.group(4));
            same = m.group(5) != null;
            second = m.group(6);
        }

        boolean refused() {
            return mark == '!';
        }

        int refusal() {
            return (int) (due < -10 ? due + 10 : due);
        }

        boolean changes() {
            return CHANGING.contains(method) && !leavesAll();
        }

        boolean leavesAll() {
            return refused() || same || !CHANGING.contains(method);
        }

        @Override
        public String toString() {
            return method + "(" + arguments + ")";
        }
    }

    private static List<Line> linesOf(String script) {
        List<Line> lines = new ArrayList<>();
        for (String line : script.split("\n")) {
            String told = line.stripLeading();
            if (!told.isEmpty()) {
                Matcher m = LINE.matcher(told);
                if (m.matches()) {
                    lines.add(new Line(m));
                    note(lines.get(lines.size() - 1));
                } else {
                    fail("no line of a script: " + told);
                }
            }
        }
        return lines;
    }

    private static void note(Line line) {
        if (line.refused() && line.method.equals(methodOf(promise))) {
            SEEN.add(promise + " " + line.due);
            if (line.second != null) {
                SEEN.add(promise + " " + line.due + " " + line.second);
            }
        }
    }

    /** The whole script: each answer, and at the end all REFUSALS that there were. */
    private static void playAll(List<Line> lines) {
        Player x = new Player(new NoArmsCrossed(), METHODS);
        int[] refusals = new int[8];
        for (Line line : lines) {
            x.play(line);
            if (line.refused()) {
                refusals[-line.refusal()]++;
            }
        }
        for (int no = 1; no <= 7; no++) {
            is("status(" + (10 + no) + ") behind the script", x.call("status", 10 + no), refusals[no]);
        }
    }

    private static void playOnModel(List<Line> lines) {
        Player model = new Player(new PlainModel(), MODEL_METHODS);
        for (Line line : lines) {
            model.play(line);
        }
    }

    /** With the call and without it: the same is seen, and the same when THE IMAGE is restored. */
    private static void leavesAll(List<Line> ahead, Line line) {
        for (boolean restored : new boolean[] {false, true}) {
            Player with = played(ahead);
            Player without = played(ahead);
            with.go(line);
            if (restored) {
                with.call("restore");
                without.call("restore");
            }
            boolean faultToo = !line.method.equals("table");
            List<String> got = with.seen(faultToo);
            List<String> due = without.seen(faultToo);
            if (line.refused()) {
                int at = due.indexOf(Player.told("status(" + (10 - line.refusal()) + ")", without.refusals(line)));
                due.set(at, Player.told("status(" + (10 - line.refusal()) + ")", without.refusals(line) + 1));
            }
            for (int i = 0; i < Math.max(got.size(), due.size()); i++) {
                String one = i < got.size() ? got.get(i) : "nothing";
                String two = i < due.size() ? due.get(i) : "nothing";
                if (!one.equals(two)) {
                    fail("behind " + line + (restored ? " and restore()" : "") + " " + one + ", without it " + two);
                }
            }
        }
    }

    /** Questions and refused calls left out. */
    private static Player played(List<Line> lines) {
        Player x = new Player(new NoArmsCrossed(), METHODS);
        for (Line line : lines) {
            if (line.changes() || line.method.equals("table")) {
                x.go(line);
            }
        }
        return x;
    }

    // ---- one object

    private static final class Player {
        private final Object object;
        private final Map<String, Method> methods;
        private int calls = 0;

        Player(Object object, Map<String, Method> methods) {
            this.object = object;
            this.methods = methods;
        }

        /** The call, and whether its answer is due. */
        void play(Line line) {
            long got = go(line);
            if (line.mark != ' ' && got != line.due) {
                String who = object instanceof PlainModel ? " of PlainModel" : "";
                fail(line + who + " answered " + got + ", due is " + line.due);
            }
        }

        long go(Line line) {
            if (line.method.equals("text") || line.method.equals("numbers")) {
                putRow(line);
                return 0;
            }
            String[] values = line.arguments.isEmpty() ? new String[0] : line.arguments.split(", ");
            return call(line.method, (Object[]) values);
        }

        private void putRow(Line line) {
            String[] parts = line.arguments.split(", ?", 3);
            List<Long> values = new ArrayList<>();
            if (line.method.equals("text")) {
                for (char letter : parts[2].toCharArray()) {
                    values.add((long) letter);
                }
            } else if (!parts[2].isEmpty()) {
                for (String number : parts[2].split(" ")) {
                    values.add(Long.decode(number));
                }
            }
            call("row", parts[0], parts[1], values.size());
            for (int i = 0; i < values.size(); i++) {
                call("set", parts[0], i, values.get(i));
            }
        }

        long call(String name, Object... values) {
            Method method = methods.get(name);
            if (method == null || method.getParameterCount() != values.length) {
                fail("no such call: " + name + " with " + values.length);
                return 0;
            }
            calls++;
            if (calls == CALLS_MOST + 1) {
                fail("a test of more than 512 calls");
            }
            Object[] typed = new Object[values.length];
            for (int i = 0; i < values.length; i++) {
                String value = String.valueOf(values[i]);
                Class<?> type = method.getParameterTypes()[i];
                typed[i] = type == boolean.class ? (Object) Boolean.valueOf(value)
                    : type == long.class ? (Object) Long.decode(value) : (Object) Integer.decode(value);
            }
            try {
                return ((Number) method.invoke(object, typed)).longValue();
            } catch (InvocationTargetException | IllegalAccessException e) {
                fail(name + " threw " + e.getCause());
                return 0;
            }
        }

        long refusals(Line line) {
            return call("status", 10 - line.refusal());
        }

        static String told(String call, long answer) {
            return call + " = " + answer;
        }

        private void ask(List<String> seen, String name, int... values) {
            Object[] boxed = new Object[values.length];
            StringBuilder call = new StringBuilder(name + "(");
            for (int i = 0; i < values.length; i++) {
                boxed[i] = values[i];
                call.append(i == 0 ? "" : ", ").append(values[i]);
            }
            seen.add(told(call + ")", call(name, boxed)));
        }

        /** All that can be seen of the object. */
        List<String> seen(boolean faultToo) {
            List<String> seen = new ArrayList<>();
            for (int what = 0; what <= 17; what++) {
                ask(seen, "status", what);
            }
            for (int g = 0; g < Math.min(10, call("status", 0)); g++) {
                for (int what = 0; what < 5; what++) {
                    ask(seen, "guestOf", g, what);
                }
            }
            for (int s = 0; s < 8; s++) {
                ask(seen, "holds", s);
                for (int i = 0; i < ELEMENTS_SEEN.length && call("holds", s) >= 100; i++) {
                    ask(seen, "element", s, ELEMENTS_SEEN[i]);
                }
            }
            for (int i = 0; i < 11; i++) {
                ask(seen, "trace", i);
            }
            if (faultToo) {
                ask(seen, "fault");
            }
            return seen;
        }
    }

    private static Map<String, Method> methodsOf(Class<?> of) {
        Map<String, Method> methods = new HashMap<>();
        Set<String> promised = new TreeSet<>();
        for (Method method : NoArmsCrossed.class.getMethods()) {
            promised.add(method.getName());
        }
        for (Method method : of.getDeclaredMethods()) {
            if (promised.contains(method.getName()) && method.getReturnType().isPrimitive()) {
                methods.put(method.getName(), method);
            }
        }
        return methods;
    }

    private static String plainly(String text) {
        return text.replaceAll("\\s+", " ");
    }

    private static String read(Path path) {
        try {
            return Files.readString(path);
        } catch (IOException e) {
            throw new UncheckedIOException(e);
        }
    }
}
