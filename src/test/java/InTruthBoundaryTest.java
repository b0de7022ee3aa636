/** Boundary cases of promises 37 to 47: clinks in truth, FEASTS, ACTS, THE IMAGE, what is counted. */
public final class InTruthBoundaryTest {
    private static final String MIN = "-2147483648";
    private static final String MAX = "2147483647";
    private static final String ORDER = "the first that fits, in this order";
    private static final String NOBODY = "-1 NOBODY: no such SHELF, GUEST";
    private static final String TEN = Boundary.plain(12, 10);
    /** So that nothing is WANTED any more. */
    private static final String THREE_HAD = Boundary.only(3);

    public static void main(String[] args) {
        clink();
        clinkRefused();
        goes();
        change();
        leaves();
        feast();
        feastDraws();
        seed();
        act();
        actWraps();
        actOfNone();
        trace();
        bodies();
        image();
        restore();
        restoreShelves();
        status();
        refusals();
        calls();
        Boundary.end("InTruthBoundaryTest", 37, 47);
    }

    private static void pairRefused(String call) {
        for (String g : new String[] {"-1", "7", "10", "32", MIN, MAX}) {
            Boundary.test(NOBODY, Boundary.rich(), call + "(" + g + ", 0) ! -1", call + "(0, " + g + ") ! -1");
        }
        Boundary.test(NOBODY, TEN, call + "(10, 0) ! -1", call + "(9, 10) ! -1");
        Boundary.test("-6 the same", Boundary.rich(), call + "(0, 0) ! -6", call + "(6, 6) ! -6");
        Boundary.test(ORDER, Boundary.rich(), call + "(7, 7) ! -1 ahead of -6");
        Boundary.test(ORDER, Boundary.rich(), call + "(-1, -1) ! -1 ahead of -6");
    }

    private static void clink() {
        Boundary.promise(37);
        String still = "how many are WANTED still";
        Boundary.test(still, TEN, "clink(0, 9) = 44", "clink(9, 8) = 43", "wanted(-1) = 43", "status(2) = 2");
        Boundary.test(still, Boundary.plain(3, 3), "clink(0, 1) = 2", "clink(2, 0) = 1", "clink(1, 2) = 0",
            "wanted(-1) = 0", "guestOf(2, 3) = 3", "guestOf(0, 3) = 6");
        String counted = "(each so many SECONDS; CLINKS, SECONDS are counted)";
        Boundary.test(counted, "guest(2, 0, 9)", "guest(2, 1, 0)", "guest(0, 2, 9)", "clink(1, 2) = 2", "status(4) = 1",
            "clink(0, 1) = 1", "status(4) = 11", "eyes(1)", "clink(2, 0) = 0", "status(4) = 31", "status(3) = 3");
    }

    private static void clinkRefused() {
        pairRefused("clink");
        String not = "-6 the same, not WANTED";
        Boundary.test(not, Boundary.plain(3, 2), "clink(0, 1) = 0", "clink(0, 1) ! -6", "clink(1, 0) ! -6",
            "status(3) = 1");
        Boundary.test(not, Boundary.plain(3, 2), "had(0, 1, true)", "clink(1, 0) ! -6", "had(0, 1, false)",
            "clink(1, 0) = 0");
        Boundary.test(not, Boundary.plain(3, 2), "bar(0, 1, true)", "clink(1, 0) ! -6", "bar(0, 1, false)",
            "clink(1, 0) = 0");
        Boundary.test(not, "guest(5, 0, 0)", "guest(0, 1, 0)", "clink(0, 1) ! -6", "clink(1, 0) ! -6");
        Boundary.test(not, "guest(3, 0, 9)", "guest(3, 1, 9)", "clink(0, 1) ! -6");
        Boundary.test(not, "guest(1, 0, 1)", "guest(0, 3, 0)", "guest(0, 2, 0)", "clink(0, 1) ! -6", "clink(1, 0) ! -6",
            "clink(2, 0) = 1", "change(1, 2)", "clink(1, 0) = 1");
        Boundary.test(not, Boundary.rich(), "clink(0, 4) ! -6", "clink(2, 4) ! -6", "clink(0, 2) ! -6", "clink(5, 6) ! -6");
    }

    private static void goes() {
        Boundary.promise(38);
        String sentence = "n of ROUNDS (1 to 45) in truth, as long as something is WANTED: how many clinks.";
        Boundary.test(sentence, TEN, "goes(1) = 5", "status(2) = 5", "status(3) = 5", "status(4) = 1", "wanted(-1) = 40");
        Boundary.test(sentence, TEN, "goes(45) = 45", "status(2) = 45", "status(3) = 45", "status(4) = 13",
            "wanted(-1) = 0", "goes(1) = 0 same", "goes(45) = 0 same");
        Boundary.test(sentence, TEN, "goes(12) = 44", "wanted(-1) = 1", "rounds() = 1", "goes(1) = 1", "wanted(-1) = 0");
        Boundary.test(sentence, TEN, "goes(13) = 45", "wanted(-1) = 0");
        Boundary.test(sentence, "goes(1) = 0 same", "goes(45) = 0 same");
        Boundary.test(sentence, Boundary.plain(3, 1), "goes(45) = 0 same");
        Boundary.test(sentence, THREE_HAD, "goes(45) = 0 same");
        Boundary.test(sentence, Boundary.only(10, 5, 106, 207, 308, 409), "goes(2) = 2", "wanted(-1) = 3", "wanted(0) = 207",
            "goes(45) = 3", "status(4) = 5");
        // only so many as are told, whatever was asked ahead
        Boundary.test(sentence, TEN, "rounds() = 13", "goes(1) = 5", "status(3) = 5", "status(4) = 1", "wanted(-1) = 40");
        Boundary.test(sentence, Boundary.only(6, 3, 5, 102, 304), "rounds() = 2", "had(0, 5, true)", "had(1, 2, true)",
            "had(3, 4, true)", "goes(45) = 1", "status(3) = 1", "status(4) = 1", "wanted(-1) = 0");
        // rounds: 0 1 with 2 3, 0 3 with 1 2, 0 2, 1 3
        Boundary.test("each as long as its longest clink", "guest(0, 0, 9)", "guest(2, 1, 2)", "guest(2, 2, 5)",
            "guest(0, 3, 9)", "goes(1) = 2", "status(4) = 6", "goes(1) = 2", "status(4) = 12", "goes(1) = 1",
            "status(4) = 18", "eyes(1)", "goes(1) = 1", "status(4) = 24", "status(3) = 6");
        for (String n : new String[] {"0", "46", "-1", MIN, MAX}) {
            Boundary.test("-6 WRONG: a number that may not be", Boundary.rich(), "goes(" + n + ") ! -6");
            Boundary.test("-6 WRONG: a number that may not be", "goes(" + n + ") ! -6");
            Boundary.test("-6 WRONG: a number that may not be", THREE_HAD, "goes(" + n + ") ! -6");
        }
    }

    private static void change() {
        Boundary.promise(39);
        String sentence = "Two GUESTS change SEATS in truth: 1.";
        Boundary.test(sentence, TEN, "change(0, 9) = 1", "guestOf(0, 1) = 9", "guestOf(9, 1) = 0", "change(9, 0) = 1",
            "guestOf(0, 1) = 0", "guestOf(9, 1) = 9", "guestOf(5, 1) = 5");
        Boundary.test(sentence, "seats(12)", "guest(1, 0, 0)", "guest(2, 11, 9)", "change(0, 1) = 1", """
            guestOf(0, 0) = 1
            guestOf(0, 1) = 11
            guestOf(0, 2) = 0
            guestOf(1, 0) = 2
            guestOf(1, 1) = 0
            guestOf(1, 2) = 9
            """);
        Boundary.test(sentence, Boundary.plain(8, 3), "had(0, 1, true)", "bar(0, 2, true)", "change(0, 2) = 1", """
            guestOf(0, 3) = 2
            guestOf(0, 4) = 4
            guestOf(1, 3) = 1
            guestOf(2, 3) = 0
            status(2) = 1
            status(3) = 0
            status(4) = 0
            """);
        pairRefused("change");
    }

    private static void leaves() {
        Boundary.promise(40);
        Boundary.test("The last GUEST goes", TEN, "leaves() = 9", "guestOf(9, 0) ! -5", "guestOf(8, 1) = 8",
            "guest(6, 9, 0) = 9");
        Boundary.test("The last GUEST goes", Boundary.plain(3, 3), "leaves() = 2", "leaves() = 1", "leaves() = 0",
            "leaves() ! -6", "status(0) = 0", "status(1) = 3");
        Boundary.test("-6 there is none", "leaves() ! -6", "guest(0, 0, 0)", "leaves() = 0", "leaves() ! -6");
        Boundary.test("(what was BARRED, HAD with him, too)", TEN, "had(0, 9, true)", "had(8, 9, true)", "had(0, 8, true)",
            "bar(1, 9, true)", "bar(1, 8, true)", "leaves() = 9", """
            status(2) = 1
            guestOf(0, 3) = 256
            guestOf(8, 3) = 1
            guestOf(1, 4) = 256
            guestOf(8, 4) = 2
            guest(0, 9, 0) = 9
            guestOf(9, 3) = 0
            guestOf(9, 4) = 0
            guestOf(0, 3) = 256
            wanted(-1) = 43
            """);
        Boundary.test("(what was BARRED, HAD with him, too)", Boundary.plain(8, 2), "clink(0, 1)", "leaves() = 1",
            "status(2) = 0", "status(3) = 1", "status(4) = 1", "guest(0, 1, 0)", "clink(0, 1) = 0", "status(3) = 2");
        Boundary.test("(SHELVES that hold him hold NOTHING)", TEN, "show(0, 9)", "show(7, 9)", "show(3, 8)",
            "numbers(4, 0, 9)", "row(5, 0, 0)", "leaves() = 9", """
            holds(0) = -1
            holds(7) = -1
            holds(3) = 8
            holds(4) = 100
            element(4, 0) = 9
            holds(5) = 100
            guest(0, 9, 0) = 9
            holds(0) = -1
            """);
        Boundary.test("(SHELVES that hold him hold NOTHING)", "guest(0, 0, 0)", "show(0, 0)", "row(1, 3, 1)", "leaves() = 0",
            "holds(0) = -1", "holds(1) = 103", "says(0, 0) ! -3");
        Boundary.test("The last GUEST goes", Boundary.plain(8, 2), "change(0, 1)", "leaves() = 1", "guestOf(0, 1) = 1",
            "guest(0, 1, 0) ! -6", "guest(0, 0, 0) = 1");
    }

    private static void feast() {
        Boundary.promise(41);
        String sentence = "A FEAST by draws (n 1 to 60) in truth: how many clinks.";
        // one GUEST: both DRAWS are 0 each time, and SEED goes on
        Boundary.test(sentence, Boundary.plain(3, 1), "feast(1) = 0", "status(6) = -1770082073", "guestOf(0, 1) = 0",
            "status(3) = 0");
        Boundary.test(sentence, Boundary.plain(3, 1), "feast(60) = 0", "status(6) = -47055799", "guestOf(0, 1) = 0");
        Boundary.test(sentence, TEN, "feast(60)", "status(6) = -47055799");
        Boundary.test(sentence, THREE_HAD, "feast(60) = 0", "status(2) = 3", "status(3) = 0", "status(4) = 0",
            "status(6) = -47055799");
        Boundary.test("-5 no GUESTS", "feast(1) ! -5", "feast(60) ! -5", "status(6) = 1");
        Boundary.test("-5 no GUESTS", "guest(0, 0, 0)", "leaves()", "feast(1) ! -5");
        for (String n : new String[] {"0", "61", "-1", MIN, MAX}) {
            Boundary.test("-6 WRONG: a number that may not be", Boundary.rich(), "feast(" + n + ") ! -6", "status(6) = -77");
            Boundary.test(ORDER, "feast(" + n + ") ! -5 ahead of -6");
        }
    }

    private static void feastDraws() {
        String draw = "a DRAW below how many there are each; if that is a WANTED PAIR, they clink";
        // from SEED 1 of two: 0 0, 1 1, 1 1, 0 1, 0 0, 1 1
        String two = "guest(0, 2, 0)\nguest(0, 6, 0)\n";
        Boundary.test(draw, two, "feast(3) = 0", "status(6) = -1778682749", "guestOf(0, 1) = 2", "feast(1) = 1",
            "status(6) = -1661227463", "guestOf(0, 1) = 2", "status(2) = 1", "status(3) = 1", "status(4) = 1");
        String change = "else, if they are two, they change SEATS";
        Boundary.test(change, two, "had(0, 1, true)", "feast(3) = 0", "guestOf(0, 1) = 2", "feast(1) = 0",
            "guestOf(0, 1) = 6", "guestOf(1, 1) = 2", "status(3) = 0", "status(4) = 0");
        Boundary.test(change, two, "bar(0, 1, true)", "feast(4) = 0", "guestOf(0, 1) = 6", "status(2) = 0");
        Boundary.test(change, "guest(5, 2, 0)", "guest(0, 6, 0)", "feast(4) = 0", "guestOf(0, 1) = 6", "status(2) = 0");
        // of three: 2 0, 0 0, 0 1, 2 2, 2 0, 1 2
        Boundary.test(draw, Boundary.plain(8, 3), "feast(1) = 1", "guestOf(0, 3) = 4", "feast(2) = 1", "guestOf(0, 3) = 6",
            "feast(1) = 0", "guestOf(0, 1) = 0", "feast(1) = 0", "guestOf(0, 1) = 2", "guestOf(2, 1) = 0", "feast(1) = 1",
            "status(2) = 3", "status(6) = 836760821");
        // ten: 8 6
        Boundary.test(draw, TEN, "feast(1) = 1", "guestOf(8, 3) = 64", "guestOf(6, 3) = 256", "status(6) = -1770082073");
        String wraps = "(an int, wrapping)";
        Boundary.test(wraps, TEN, "seed(" + MAX + ")", "feast(1) = 1", "guestOf(9, 3) = 128", "status(6) = -1858503659");
        Boundary.test(wraps, TEN, "seed(" + MIN + ")", "feast(1) = 0", "status(6) = 1406932606", "status(2) = 0");
        Boundary.test(wraps, TEN, "seed(-1)", "feast(1) = 1", "guestOf(7, 3) = 512", "status(6) = 288979989");
        Boundary.test(wraps, TEN, "seed(0)", "feast(1) = 1", "guestOf(0, 3) = 64", "status(6) = -740551042");
        // both SEEDS are below 0: with a sign the DRAWS would be others
        String unsigned = "its upper 16 bits, no sign, modulo n";
        Boundary.test(unsigned, Boundary.plain(8, 3), "seed(30)", "feast(1) = 1", "guestOf(0, 3) = 4",
            "status(6) = -1561710900");
        Boundary.test(unsigned, Boundary.plain(8, 3), "seed(58)", "feast(1) = 1", "guestOf(1, 3) = 4",
            "status(6) = -323808696");
        Boundary.test("with EYES twice as long", "guest(2, 2, 9)", "guest(0, 6, 0)", "eyes(1)", "feast(4) = 1",
            "status(4) = 20");
    }

    private static void seed() {
        Boundary.promise(42);
        String sentence = "SEED becomes v: what it was (nothing is refused).";
        Boundary.test(sentence, "seed(1) = 1 same", "seed(0) = 1", "seed(" + MIN + ") = 0", "seed(" + MAX + ") = " + MIN,
            "seed(-1) = " + MAX, "status(6) = -1", "seed(-1) = -1 same");
        Boundary.test(sentence, "guest(0, 0, 0)", "seed(" + MAX + ")", "feast(1)", "seed(7) = -1858503659");
    }

    private static void act() {
        Boundary.promise(43);
        String numbers = "x (wrapping): 0 clinks, 1 waits, 2 looks; m the number, k its a";
        Boundary.test(numbers, TEN, "act(0, 0, 0) = 0", "act(9, 0, 0) = 9", "act(9, 1, 1) = 20", "act(9, 2, 1) = 30");
        // GUEST 0 of each KIND, his a 0 and 9, x 10
        int[][] due = {{10, 20, 30, 10, 20, 21}, {10, 20, 30, 19, 38, 44}, {10, 60, 54, 10, 60, 61}, {10, 22, 28, 19, 40, 34},
            {10, 20, -30, 10, 20, -21}, {10, 60, 51, 10, 60, 56}, {20, 40, -60, 20, 4, -6}};
        for (int kind = 0; kind < 7; kind++) {
            for (int act = 0; act < 3; act++) {
                Boundary.test("super: from the KIND above the body's on.", "guest(" + kind + ", 0, 0)",
                    "act(0, " + act + ", 10) = " + due[kind][act]);
                Boundary.test("super: from the KIND above the body's on.", "guest(" + kind + ", 0, 9)",
                    "act(0, " + act + ", 10) = " + due[kind][3 + act]);
            }
        }
        Boundary.test("An ACT of a GUEST with x.", Boundary.rich(), "act(6, 0, 1)", "status(3) = 1", "status(4) = 10",
            "status(6) = -77", "holds(3) = 6");
    }

    private static void actWraps() {
        String wraps = "ACTS of GUESTS, with x (wrapping)";
        Boundary.test(wraps, TEN, "act(0, 0, " + MAX + ") = " + MAX, "act(1, 0, " + MAX + ") = " + MIN,
            "act(9, 0, " + MAX + ") = -2147483640", "act(0, 0, " + MIN + ") = " + MIN);
        Boundary.test(wraps, "guest(0, 0, 1)", "act(0, 1, " + MAX + ") = -2", "act(0, 1, 1073741824) = " + MIN,
            "act(0, 1, " + MIN + ") = 0", "act(0, 2, " + MIN + ") = " + MAX);
        Boundary.test(wraps, "guest(1, 0, 9)", "act(0, 0, " + MAX + ") = -2147483640", "act(0, 1, " + MAX + ") = 16");
        Boundary.test(wraps, "guest(2, 0, 9)", "act(0, 1, 536870912) = -1073741824", "act(0, 1, " + MAX + ") = -6");
        Boundary.test(wraps, "guest(3, 0, 0)", "act(0, 1, " + MAX + ") = 0");
        Boundary.test(wraps, "guest(3, 0, 9)", "act(0, 1, " + MAX + ") = 18");
        Boundary.test(wraps, "guest(0, 1, 0)", "guest(4, 0, 0)", "act(1, 0, " + MAX + ") = " + MAX,
            "act(1, 2, " + MIN + ") = " + MIN);
        Boundary.test(wraps, "guest(5, 0, 0)", "act(0, 2, " + MAX + ") = " + MIN);
        Boundary.test(wraps, "guest(6, 0, 1)", "act(0, 0, 1073741824) = " + MIN, "act(0, 1, " + MIN + ") = -4",
            "act(0, 2, " + MIN + ") = -2");
    }

    private static void actOfNone() {
        String none = "0, and no TRACE then: no such GUEST, act.";
        for (String who : new String[] {"7, 0", "-1, 0", "10, 2", MIN + ", 1", MAX + ", 1", "0, 3", "0, -1", "6, " + MIN,
            "6, " + MAX, "7, 3", "-1, -1"}) {
            Boundary.test(none, Boundary.rich(), "status(7) = 10", "trace(9) = 10", "act(" + who + ", 5) = 0",
                "status(7) = 0", "trace(0) = -1", "trace(9) = -1");
        }
        Boundary.test(none, "act(0, 0, 5) = 0 same");
        Boundary.test(none, TEN, "act(10, 0, 5) = 0", "act(9, 0, 5) = 14", "leaves()", "act(9, 0, 5) = 0", "status(7) = 0");
    }

    private static void trace() {
        Boundary.promise(44);
        String sentence = "THE TRACE's i-th body. NONE: none such.";
        Boundary.test(sentence, "trace(0) = -1", "trace(-1) = -1", "trace(19) = -1", "trace(20) = -1");
        Boundary.test(sentence, "guest(0, 0, 0)", "act(0, 0, 5) = 5", "status(7) = 1", "trace(0) = 10", "trace(1) = -1",
            "trace(-1) = -1");
        // a HOST looks: no act() has more bodies
        String host = "guest(6, 0, 1)\nact(0, 2, 5)\n";
        int[] bodies = {50, 12, 71, 11, 70, 51, 10, 70, 51, 10};
        StringBuilder script = new StringBuilder(host).append("status(7) = 10\n");
        for (int i = 0; i < bodies.length; i++) {
            script.append("trace(").append(i).append(") = ").append(bodies[i]).append('\n');
        }
        Boundary.test(sentence, script.toString());
        for (String i : new String[] {"-1", "10", "19", "20", "21", MIN, MAX}) {
            Boundary.test(sentence, host, "trace(" + i + ") = -1");
        }
        String latest = "the numbers of the bodies that ran in the latest act()";
        Boundary.test(latest, host, "act(0, 0, 5)", "status(7) = 3", "trace(0) = 70", "trace(2) = 10", "trace(3) = -1");
        Boundary.test(latest, host, "act(0, 1, 5)", "status(7) = 5", "trace(0) = 71", "trace(4) = 10", "trace(5) = -1");
        Boundary.test(latest, host, "image()", "act(0, 0, 5)", "restore()", "status(7) = 3", "trace(0) = 70",
            "trace(3) = -1");
        Boundary.test(latest, host, "leaves()", "clink(0, 1) ! -1", "status(7) = 10", "trace(0) = 50", "trace(9) = 10");
    }

    /** GUEST 1 of a KIND, his a 3, with x 5: the answer and the bodies that ran. */
    private static void body(String ofDocument, int kind, int act, int due, int... bodies) {
        StringBuilder script = new StringBuilder("guest(0, 0, 0)\nguest(" + kind + ", 1, 3)\n");
        script.append("act(1, ").append(act).append(", 5) = ").append(due).append('\n');
        script.append("status(7) = ").append(bodies.length).append('\n');
        for (int i = 0; i < bodies.length; i++) {
            script.append("trace(").append(i).append(") = ").append(bodies[i]).append('\n');
        }
        Boundary.test(ofDocument, script.toString(), "trace(" + bodies.length + ") = -1");
    }

    private static void bodies() {
        body("GUEST: 10 clinks: x + m.", 0, 0, 6, 10);
        body("11 waits: clinks(x) * 2.", 0, 1, 12, 11, 10);
        body("12 looks: waits(x) ^ clinks(x - k).", 0, 2, 15, 12, 11, 10, 10);
        body("SHORT: 20 clinks: super.clinks(x) + k.", 1, 0, 9, 20, 10);
        body("SLOW: 30 waits: super.waits(x) * 3.", 2, 1, 36, 30, 11, 10);
        body("SHY: 40 waits: super.waits(x + 1).", 3, 1, 20, 40, 11, 20, 10);
        body("LEFTY: 50 looks: -super.looks(x).", 4, 2, -8, 50, 12, 11, 51, 10, 51, 10);
        body("51 clinks: super.clinks(x) - m.", 4, 0, 5, 51, 10);
        body("SOBER: 60 looks: super.looks(x) ^ 5.", 5, 2, 34, 60, 12, 30, 11, 10, 10);
        body("HOST: 70 clinks: super.clinks(x) * 2.", 6, 0, 10, 70, 51, 10);
        body("71 waits: super.waits(x - k).", 6, 1, 8, 71, 11, 70, 51, 10);
        String dispatched = "the body of the GUEST's KIND, or of the next KIND above that has one";
        body(dispatched, 1, 1, 18, 11, 20, 10);
        body(dispatched, 1, 2, 20, 12, 11, 20, 10, 20, 10);
        body(dispatched, 2, 0, 6, 10);
        body(dispatched, 2, 2, 39, 12, 30, 11, 10, 10);
        body(dispatched, 3, 0, 9, 20, 10);
        body(dispatched, 3, 2, 18, 12, 40, 11, 20, 10, 20, 10);
        body(dispatched, 4, 1, 10, 11, 51, 10);
        body(dispatched, 5, 0, 6, 10);
        body(dispatched, 5, 1, 36, 30, 11, 10);
        body("in the order in which they began; the first 20 are kept", 6, 2, -12, 50, 12, 71, 11, 70, 51, 10, 70, 51, 10);
    }

    private static void image() {
        Boundary.promise(45);
        String sentence = "is taken: how many GUESTS.";
        Boundary.test(sentence, "image() = 0", "restore() = 0");
        Boundary.test(sentence, TEN, "image() = 10", "restore() = 10", "image() = 10");
        Boundary.test(sentence, "image() = 0", "guest(0, 0, 0)", "image() = 1", "leaves()", "restore() = 1", "leaves()",
            "image() = 0", "guest(0, 0, 0)", "restore() = 0", "status(0) = 0");
        Boundary.test("THE IMAGE of all but SHELVES", "image() = 0", "seats(3)", "guest(0, 0, 0)", "eyes(1)", "seed(5)",
            "restore() = 0", "status(1) = 8", "status(5) = 0", "status(6) = 1");
        // what comes behind it is not in it
        Boundary.test("THE IMAGE of all but SHELVES", TEN, "image() = 10", "had(0, 9, true)", "bar(0, 8, true)",
            "change(1, 2)", "clink(3, 4)", "restore() = 10", """
            status(2) = 0
            status(3) = 0
            status(4) = 0
            guestOf(0, 3) = 0
            guestOf(9, 3) = 0
            guestOf(8, 4) = 0
            guestOf(1, 1) = 1
            guestOf(3, 3) = 0
            """);
    }

    private static void restore() {
        Boundary.promise(46);
        Boundary.test("-6 there is none", "restore() ! -6", "image()", "restore() = 0");
        Boundary.test("-6 there is none", TEN, "had(0, 9, true)", "show(0, 9)", "restore() ! -6");
        String all = "All is as THE IMAGE has it";
        String changed = """
            leaves()
            leaves()
            leaves()
            leaves()
            leaves()
            leaves()
            leaves()
            seats(3)
            eyes(0)
            seed(3)
            guest(0, 2, 0)
            guest(0, 1, 0)
            clink(0, 1)
            """;
        String due = """
            restore() = 7
            status(0) = 7
            status(1) = 11
            status(2) = 2
            status(3) = 1
            status(4) = 10
            status(5) = 1
            status(6) = -77
            guestOf(0, 1) = 1
            guestOf(0, 3) = 4
            guestOf(0, 4) = 16
            guestOf(2, 3) = 17
            guestOf(6, 0) = 6
            guestOf(6, 1) = 8
            guestOf(6, 2) = 5
            """;
        Boundary.test(all, Boundary.rich(), "image()", changed, due);
        Boundary.test(all, Boundary.rich(), "image()", changed, due, changed, due);
        Boundary.test(all, Boundary.rich(), "restore() = 3", "status(0) = 3", "status(2) = 0", "status(3) = 0",
            "status(5) = 0", "status(6) = 1", "guest(0, 9, 0) = 3", "guestOf(3, 3) = 0", "guestOf(3, 4) = 0",
            "guestOf(0, 4) = 0");
        Boundary.test("(and THE IMAGE, REFUSALS, the FAULT, THE TRACE)", "guest(0, 0, 0)", "image()", "eyes(2) ! -6",
            "text(0, 0, eyes 2)", "table(0) ! -6", "act(0, 1, 5)", "restore() = 1", "status(16) = 2", "fault() = 5",
            "status(7) = 2", "trace(0) = 11", "restore() = 1");
    }

    private static void restoreShelves() {
        String shelves = "SHELVES with GUESTS hold those of these numbers, or NOTHING";
        Boundary.test(shelves, "guest(0, 0, 0)", "guest(0, 1, 0)", "image()", "guest(0, 2, 0)", "show(0, 0)", "show(1, 1)",
            "show(2, 2)", "show(7, 2)", "numbers(3, 0, 2)", "restore() = 2", """
            holds(0) = 0
            holds(1) = 1
            holds(2) = -1
            holds(7) = -1
            holds(3) = 100
            element(3, 0) = 2
            """);
        Boundary.test(shelves, "image()", TEN, "show(0, 0)", "show(7, 9)", "row(4, 2, 1)", "restore() = 0",
            "holds(0) = -1", "holds(7) = -1", "holds(4) = 102");
        Boundary.test(shelves, TEN, "image()", "show(0, 9)", "show(1, 8)", "leaves()", "restore() = 10", "holds(0) = -1",
            "holds(1) = 8");
        // the same number, another GUEST
        Boundary.test(shelves, "guest(5, 3, 9)", "image()", "leaves()", "guest(0, 0, 0)", "show(0, 0)", "says(0, 0) = 0",
            "restore() = 1", "holds(0) = 0", "says(0, 0) = 3", "says(0, 5) = 9");
        Boundary.test("THE IMAGE of all but SHELVES", "numbers(0, 0, 1)", "guest(0, 0, 0)", "show(1, 0)", "image()",
            "set(0, 0, 2)", "show(1, -1)", "row(2, 3, 0)", "restore() = 1", "element(0, 0) = 2", "holds(1) = -1",
            "holds(2) = 103");
    }

    private static void status() {
        Boundary.promise(47);
        String what = "NONE for another what.";
        for (String w : new String[] {"-1", "8", "9", "10", "18", "19", MIN, MAX, "-2147483637"}) {
            Boundary.test(what, Boundary.rich(), "status(" + w + ") = -1");
        }
        Boundary.test("0 GUESTS, 1 SEATS", "seats(12)", "status(0) = 0", "status(1) = 12");
        Boundary.test("0 GUESTS, 1 SEATS", Boundary.plain(10, 10), "status(0) = 10", "status(1) = 10");
        StringBuilder all = new StringBuilder(TEN);
        for (int p = 0; p < 10; p++) {
            for (int q = p + 1; q < 10; q++) {
                all.append("had(").append(p).append(", ").append(q).append(", true)\n");
            }
        }
        Boundary.test("2 PAIRS that have HAD it", all.toString(), "status(2) = 45", "status(3) = 0", "had(0, 9, false)",
            "status(2) = 44");
        Boundary.test("3 CLINKS, 4 SECONDS", Boundary.plain(3, 2), "clink(0, 1)", "had(0, 1, false)", "clink(0, 1)",
            "status(2) = 1", "status(3) = 2", "status(4) = 2");
        Boundary.test("5 EYES, 6 SEED", "eyes(1)", "status(5) = 1", "seed(" + MIN + ")", "status(6) = " + MIN);
        Boundary.test("7 bodies that ran in the latest act() (all, kept or not)", "guest(6, 0, 0)", "status(7) = 0",
            "act(0, 0, 0)", "status(7) = 3", "act(0, 2, 0)", "status(7) = 10", "act(1, 0, 0)", "status(7) = 0");
    }

    /** Each REFUSAL is counted as its own number, and by itself. */
    private static void refusals() {
        String counted = "11 to 17: REFUSALS -1 to -7.";
        String rows = "guest(0, 0, 0)\nnumbers(0, 0, 5)\nshow(1, 0)\n";
        String[] calls = {"row(8, 0, 0) ! -1", "set(1, 0, 0) ! -2", "set(2, 0, 0) ! -3", "row(0, 0, -1) ! -4",
            "set(0, 1, 0) ! -5", "eyes(2) ! -6", "row(0, 0, 161) ! -7"};
        for (int no = 1; no <= 7; no++) {
            StringBuilder due = new StringBuilder();
            for (int other = 1; other <= 7; other++) {
                due.append("status(").append(10 + other).append(") = ").append(other == no ? 2 : 0).append('\n');
            }
            Boundary.test(counted, rows, calls[no - 1], calls[no - 1], due.toString());
        }
        String lower = "(counted as -1 to -6)";
        String[] told = {"told(8, 0) ! -11", "told(1, 0) ! -12", "told(2, 0) ! -13", "judge(0, -1) ! -14",
            "told(0, 2) ! -15", "told(0, 0) ! -16"};
        String[] judged = {"judge(8, 0) ! -11", "judge(1, 0) ! -12", "judge(2, 0) ! -13", "judge(0, -1) ! -14",
            "judge(0, 2) ! -15", "judge(3, 61) ! -16"};
        for (int no = 1; no <= 6; no++) {
            StringBuilder due = new StringBuilder();
            for (int other = 1; other <= 7; other++) {
                due.append("status(").append(10 + other).append(") = ").append(other == no ? 2 : 0).append('\n');
            }
            Boundary.test(lower, rows, "row(3, 0, 61)", told[no - 1], judged[no - 1], due.toString());
        }
        Boundary.test("nothing changes but how many there were", Boundary.rich(), calls[0], "set(2, 0, 0) ! -2",
            "set(4, 0, 0) ! -3", calls[3], "set(0, 3, 0) ! -5", calls[5], calls[6], "judge(8, 0) ! -11",
            "status(11) = 2");
        Boundary.test("(nothing is refused)", "element(8, 0) = 0", "element(0, 0) = 0", "holds(8) = -1", "trace(-1) = -1",
            "status(18) = -1", "act(9, 9, 9) = 0", "seed(-5) = 1", "bestChange() = -1", "fault() = -1", "status(11) = 0",
            "status(12) = 0", "status(13) = 0", "status(15) = 0", "status(16) = 0");
    }

    /** 511 calls, and the last. */
    private static void calls() {
        Boundary.test("An object is used for at most 512 calls after it has been made");
        NoArmsCrossed refusing = new NoArmsCrossed();
        NoArmsCrossed going = new NoArmsCrossed();
        for (int i = 0; i < 511; i++) {
            Boundary.is("eyes(2), call " + i, refusing.eyes(2), -6);
            Boundary.is("eyes, call " + i, going.eyes(1 - i % 2), i % 2);
        }
        Boundary.is("status(16), the last call", refusing.status(16), 511);
        Boundary.is("status(5), the last call", going.status(5), 1);
        NoArmsCrossed feasting = new NoArmsCrossed();
        feasting.guest(0, 0, 0);
        feasting.guest(2, 1, 9);
        feasting.eyes(1);
        for (int i = 0; i < 254; i++) {
            Boundary.is("clink, " + i, feasting.clink(0, 1), 0);
            Boundary.is("had, " + i, feasting.had(0, 1, false), 1);
        }
        Boundary.is("status(4), the last call", feasting.status(4), 254 * 20);
    }
}
