/** Boundary cases of promises 17 to 25: FAR, MAY, SECONDS, CROSS, WANTED, the MOST, WAYS, ROUNDS. */
public final class ClinksBoundaryTest {
    private static final String MIN = "-2147483648";
    private static final String MAX = "2147483647";
    private static final String ORDER = "the first that fits, in this order";
    private static final String NOBODY = "-1 NOBODY: no such SHELF, GUEST";
    private static final String BEYOND = "-5 BEYOND: an element that isn't there; nothing such to be told of.";
    /** So that nothing is WANTED any more. */
    private static final String THREE_HAD = Boundary.only(3);

    public static void main(String[] args) {
        far();
        may();
        mayShort();
        takes();
        cross();
        crossKinds();
        crossRefused();
        wanted();
        most();
        mostFirst();
        ways();
        rounds();
        roundOf();
        Boundary.end("ClinksBoundaryTest", 17, 25);
    }

    private static void pairRefused(String call) {
        for (String g : new String[] {"-1", "7", "10", "32", MIN, MAX}) {
            Boundary.test(NOBODY, Boundary.rich(), call + "(" + g + ", 0) ! -1", call + "(0, " + g + ") ! -1");
        }
        Boundary.test(NOBODY, Boundary.plain(12, 10), call + "(10, 0) ! -1", call + "(9, 10) ! -1");
        Boundary.test("-6 the same", Boundary.rich(), call + "(0, 0) ! -6", call + "(6, 6) ! -6");
        Boundary.test(ORDER, Boundary.rich(), call + "(7, 7) ! -1 ahead of -6");
        Boundary.test(ORDER, Boundary.rich(), call + "(-1, -1) ! -1 ahead of -6");
    }

    private static void far() {
        Boundary.promise(17);
        String shorter = "SEATS from the one to the other, the shorter way round";
        for (int seats = 3; seats <= 12; seats++) {
            for (int seat = 1; seat < seats; seat++) {
                int due = Math.min(seat, seats - seat);
                Boundary.test(shorter, "seats(" + seats + ")", "guest(0, 0, 0)", "guest(0, " + seat + ", 0)",
                    "far(0, 1) = " + due, "far(1, 0) = " + due);
            }
        }
        Boundary.test(shorter, "seats(12)", "guest(0, 11, 0)", "guest(0, 0, 0)", "guest(0, 5, 0)", "guest(0, 4, 0)",
            "far(0, 1) = 1", "far(0, 2) = 6", "far(3, 0) = 5");
        Boundary.test(shorter, "seats(11)", "guest(0, 10, 0)", "guest(0, 4, 0)", "guest(0, 5, 0)", "far(0, 1) = 5",
            "far(0, 2) = 5");
        pairRefused("far");
    }

    private static void may() {
        Boundary.promise(18);
        Boundary.test("if they aren't BARRED", Boundary.plain(8, 3), "may(0, 1) = 1", "bar(1, 0, true)", """
            may(0, 1) = 0
            may(1, 0) = 0
            may(0, 2) = 1
            may(1, 2) = 1
            """, "bar(0, 1, false)", "may(0, 1) = 1");
        for (int kind = 0; kind < 7; kind++) {
            int sober = kind == 5 ? 0 : 1;
            Boundary.test("none of them is SOBER", "guest(" + kind + ", 0, 9)", "guest(0, 1, 9)", "guest(5, 2, 9)",
                "may(0, 1) = " + sober, "may(1, 0) = " + sober, "may(0, 2) = 0", "may(2, 0) = 0");
            int shy = kind == 3 || kind == 5 ? 0 : 1;
            Boundary.test("they aren't both SHY", "guest(" + kind + ", 0, 9)", "guest(3, 1, 9)", "may(0, 1) = " + shy,
                "may(1, 0) = " + shy);
        }
        Boundary.test("A clink of two MAY be", "guest(0, 0, 0)", "guest(0, 1, 0)", "clink(0, 1)", "may(0, 1) = 1");
        pairRefused("may");
    }

    /** A SHORT one of each a at the greatest FAR that MAY be, and one SEAT on. */
    private static void mayShort() {
        String reach = "each that is SHORT (SHY, too) is FAR a and 1 at most from the other";
        for (int kind : new int[] {1, 3}) {
            for (int a = 0; a <= 9; a++) {
                for (int seat = 1; seat < 12; seat++) {
                    int due = Math.min(seat, 12 - seat) <= a + 1 ? 1 : 0;
                    Boundary.test(reach, "seats(12)", "guest(" + kind + ", 0, " + a + ")", "guest(0, " + seat + ", 0)",
                        "may(0, 1) = " + due, "may(1, 0) = " + due);
                }
            }
        }
        Boundary.test(reach, "seats(12)", "guest(1, 0, 1)", "guest(1, 2, 0)", "guest(1, 3, 9)", "guest(1, 1, 0)",
            "may(0, 1) = 0", "may(0, 2) = 0", "may(1, 2) = 1", "may(0, 3) = 1", "may(3, 2) = 0");
        Boundary.test(reach, "seats(12)", "guest(3, 0, 9)", "guest(1, 6, 4)", "guest(1, 5, 4)", "may(0, 1) = 0",
            "may(0, 2) = 1");
        for (int kind : new int[] {0, 2, 4, 6}) {
            Boundary.test(reach, "seats(12)", "guest(" + kind + ", 0, 0)", "guest(0, 6, 0)", "may(0, 1) = 1");
        }
        Boundary.test(reach, "seats(12)", "guest(1, 0, 0)", "guest(0, 11, 0)", "guest(0, 10, 0)", "may(0, 1) = 1",
            "may(0, 2) = 0", "change(1, 2)", "may(0, 1) = 0", "may(0, 2) = 1");
    }

    private static void takes() {
        Boundary.promise(19);
        String sentence = "It takes 1 SECOND, of a SLOW one a more (of two the greater); with EYES twice as long.";
        for (int kind = 0; kind < 7; kind++) {
            for (int a : new int[] {0, 1, 9}) {
                int due = 1 + (kind == 2 || kind == 5 ? a : 0);
                Boundary.test(sentence, "guest(" + kind + ", 0, " + a + ")", "guest(0, 7, 9)", "takes(0, 1) = " + due,
                    "takes(1, 0) = " + due, "eyes(1)", "takes(0, 1) = " + 2 * due, "eyes(0)", "takes(1, 0) = " + due);
            }
        }
        int[][] both = {{0, 0, 1}, {0, 9, 10}, {9, 0, 10}, {9, 9, 10}, {4, 5, 6}, {5, 4, 6}};
        for (int[] b : both) {
            Boundary.test(sentence, "guest(2, 0, " + b[0] + ")", "guest(2, 1, " + b[1] + ")", "takes(0, 1) = " + b[2],
                "takes(1, 0) = " + b[2], "eyes(1)", "takes(0, 1) = " + 2 * b[2]);
        }
        Boundary.test(sentence, Boundary.plain(8, 2), "bar(0, 1, true)", "had(0, 1, true)", "takes(0, 1) = 1");
        pairRefused("takes");
    }

    private static void cross() {
        Boundary.promise(20);
        String just = "if of the one two just one sits between the other two (going round either way)";
        // the two sit in SEATS 0 and s, or in 1 and s; the others in all other SEATS
        for (int seats : new int[] {4, 5, 12}) {
            for (int first = 0; first < 2; first++) {
                for (int second = first + 2; second < seats; second++) {
                    for (int other = 0; other < seats; other++) {
                        int third = (first + 1) % seats;
                        boolean fits = other != first && other != second && other != third;
                        if (fits) {
                            int due = other > first && other < second ? 0 : 1;
                            crossed(just, seats, new int[] {first, second, third, other}, due);
                        }
                    }
                }
            }
        }
    }

    private static void crossed(String sentence, int seats, int[] in, int due) {
        Boundary.test(sentence, "seats(" + seats + ")", "guest(0, " + in[0] + ", 0)", "guest(0, " + in[1] + ", 0)",
            "guest(0, " + in[2] + ", 0)", "guest(0, " + in[3] + ", 0)", "cross(0, 1, 2, 3) = " + due,
            "cross(1, 0, 2, 3) = " + due, "cross(0, 1, 3, 2) = " + due, "cross(2, 3, 0, 1) = " + due,
            "cross(3, 2, 1, 0) = " + due);
    }

    /** Each four KINDS of a plain GUEST, a SHORT one, a LEFTY and a HOST, in SEATS that CROSS. */
    private static void crossKinds() {
        int[] kinds = {0, 1, 4, 6};
        for (int i = 0; i < 256; i++) {
            int[] k = {kinds[i & 3], kinds[i >> 2 & 3], kinds[i >> 4 & 3], kinds[i >> 6]};
            boolean host = false;
            for (int kind : k) {
                host |= kind == 6;
            }
            boolean lefties = (k[0] == 4 || k[1] == 4) && (k[2] == 4 || k[3] == 4);
            String sentence = host ? "not, if a HOST is among the four" : lefties ? "nor if there is a LEFTY in each"
                : "Two clinks of four GUESTS CROSS";
            Boundary.test(sentence, "guest(" + k[0] + ", 0, 0)", "guest(" + k[1] + ", 4, 0)", "guest(" + k[2] + ", 2, 0)",
                "guest(" + k[3] + ", 6, 0)", "cross(0, 1, 2, 3) = " + (host || lefties ? 0 : 1));
        }
        for (int kind : new int[] {2, 3, 5}) {
            Boundary.test("Two clinks of four GUESTS CROSS", "guest(" + kind + ", 0, 0)", "guest(4, 4, 0)",
                "guest(" + kind + ", 2, 0)", "guest(" + kind + ", 6, 0)", "cross(0, 1, 2, 3) = 1");
        }
        Boundary.test("Two clinks of four GUESTS CROSS", Boundary.plain(4, 4), "bar(0, 2, true)", "had(1, 3, true)",
            "cross(0, 2, 1, 3) = 1", "change(0, 1)", "cross(0, 2, 1, 3) = 0");
    }

    private static void crossRefused() {
        for (String g : new String[] {"-1", "7", "10", "32", MIN, MAX}) {
            Boundary.test(NOBODY, Boundary.rich(), "cross(" + g + ", 0, 1, 2) ! -1", "cross(0, " + g + ", 1, 2) ! -1",
                "cross(0, 1, " + g + ", 2) ! -1", "cross(0, 1, 2, " + g + ") ! -1");
        }
        Boundary.test(NOBODY, Boundary.plain(3, 3), "cross(0, 1, 2, 3) ! -1");
        Boundary.test("-6 not four", Boundary.rich(), """
            cross(0, 0, 1, 2) ! -6
            cross(0, 1, 0, 2) ! -6
            cross(0, 1, 2, 0) ! -6
            cross(0, 1, 1, 2) ! -6
            cross(0, 1, 2, 1) ! -6
            cross(0, 1, 2, 2) ! -6
            cross(6, 6, 6, 6) ! -6
            cross(0, 1, 0, 1) ! -6
            cross(0, 1, 1, 0) ! -6
            """);
        Boundary.test("-6 not four", Boundary.plain(3, 3), "cross(0, 1, 2, 0) ! -6");
        Boundary.test(ORDER, Boundary.rich(), "cross(0, 0, 1, 7) ! -1 ahead of -6");
        Boundary.test(ORDER, Boundary.rich(), "cross(-1, -1, 0, 0) ! -1 ahead of -6");
        Boundary.test(ORDER, Boundary.rich(), "cross(7, 0, 1, 1) ! -1 ahead of -6");
        Boundary.test(ORDER, Boundary.rich(), "cross(0, 8, 0, 1) ! -1 ahead of -6");
        Boundary.test(ORDER, Boundary.rich(), "cross(1, 1, 9, 0) ! -1 ahead of -6");
    }

    /** The list that a call tells: how many there are, each, and none beyond. */
    private static String list(String call, int... due) {
        StringBuilder script = new StringBuilder();
        String open = call.endsWith(",") ? call + " " : call + "(";
        script.append(open).append("-1) = ").append(due.length).append('\n');
        for (int i = 0; i < due.length; i++) {
            script.append(open).append(i).append(") = ").append(due[i]).append('\n');
        }
        for (String none : new String[] {String.valueOf(due.length), "-2", "45", "64", MIN, MAX}) {
            script.append(open).append(none).append(") ! -5\n");
        }
        return script.toString();
    }

    private static void wanted() {
        Boundary.promise(21);
        String sentence = "how many (i NONE), the i-th as 100 times the lesser and the other. -5.";
        Boundary.test(sentence, list("wanted"));
        Boundary.test(sentence, Boundary.plain(3, 1), list("wanted"));
        Boundary.test(sentence, Boundary.plain(3, 2), list("wanted", 1));
        Boundary.test(sentence, THREE_HAD, list("wanted"));
        int[] all = new int[45];
        int n = 0;
        for (int p = 0; p < 10; p++) {
            for (int q = p + 1; q < 10; q++) {
                all[n++] = 100 * p + q;
            }
        }
        Boundary.test(sentence, Boundary.plain(12, 10), list("wanted", all));
        String which = "WANTED: PAIRS that MAY be and haven't HAD it.";
        Boundary.test(which, Boundary.plain(8, 3), "had(1, 2, true)", list("wanted", 1, 2));
        Boundary.test(which, Boundary.plain(8, 3), "bar(1, 0, true)", list("wanted", 2, 102));
        Boundary.test(which, Boundary.plain(8, 2), "guest(5, 7, 0)", list("wanted", 1));
        Boundary.test(which, Boundary.plain(8, 3), "had(0, 1, true)", "bar(0, 1, true)", "had(0, 1, false)",
            list("wanted", 2, 102));
        Boundary.test("PAIRS (the lesser number ahead)", "guest(0, 7, 0)", "guest(0, 0, 0)", list("wanted", 1));
        Boundary.test(BEYOND, Boundary.rich(), "wanted(45) ! -5");
    }

    private static void most() {
        Boundary.promise(22);
        String sentence = "how many PAIRS (i NONE), the i-th. -5.";
        Boundary.test(sentence, list("most"));
        Boundary.test(sentence, Boundary.plain(3, 1), list("most"));
        Boundary.test(sentence, Boundary.plain(3, 2), list("most", 1));
        Boundary.test(sentence, THREE_HAD, list("most"));
        Boundary.test(sentence, Boundary.plain(12, 10), list("most", 1, 203, 405, 607, 809));
        Boundary.test(sentence, Boundary.plain(12, 9), list("most", 1, 203, 405, 607));
        Boundary.test(sentence, Boundary.plain(12, 10), "most(-1) = 5", "most(4) = 809", "goes(45)", "most(-1) = 0",
            "most(0) ! -5");
        Boundary.test(sentence, Boundary.plain(3, 2), "most(-1) = 1", "bar(0, 1, true)", "most(-1) = 0", "most(0) ! -5");
        String atOnce = "no GUEST in two, none two of which CROSS";
        Boundary.test(atOnce, Boundary.plain(3, 3), list("most", 1));
        Boundary.test(atOnce, Boundary.only(4, 1, 2, 3), list("most", 1));
        Boundary.test(atOnce, Boundary.only(4, 2, 103), list("most", 2));
        Boundary.test(atOnce, Boundary.only(4, 3, 102), list("most", 3, 102));
        Boundary.test(atOnce, Boundary.only(4, 1, 203), list("most", 1, 203));
        Boundary.test("not, if a HOST is among the four", "guest(0, 0, 0)", "guest(0, 1, 0)", "guest(0, 2, 0)",
            "guest(6, 3, 0)", "bar(0, 1, true)", "bar(0, 3, true)", list("most", 2, 103));
        Boundary.test("nor if there is a LEFTY in each", "guest(4, 0, 0)", "guest(4, 1, 0)", "guest(0, 2, 0)",
            "guest(0, 3, 0)", "bar(0, 1, true)", "bar(0, 3, true)", list("most", 2, 103));
    }

    private static void mostFirst() {
        String several = "of several the first (PAIRS in order; by the first PAIR at which two differ, the lesser)";
        Boundary.test(several, Boundary.plain(4, 4), list("most", 1, 203));
        Boundary.test(several, Boundary.plain(4, 4), "had(2, 3, true)", list("most", 3, 102));
        Boundary.test(several, Boundary.plain(4, 3), list("most", 1));
        // the same first PAIR; they differ at the second, then only at the third
        Boundary.test(several, Boundary.only(6, 1, 203, 205), list("most", 1, 203));
        Boundary.test(several, Boundary.only(6, 1, 205, 304), list("most", 1, 205, 304));
        Boundary.test(several, Boundary.only(8, 1, 203, 405, 407), list("most", 1, 203, 405));
        Boundary.test(several, Boundary.only(8, 1, 203, 405, 407, 506), list("most", 1, 203, 407, 506));
        // more PAIRS go ahead of lesser ones
        Boundary.test("the one of most PAIRS", Boundary.only(6, 2, 5, 104, 203), list("most", 5, 104, 203));
        Boundary.test("the one of most PAIRS", Boundary.only(6, 3, 102, 304, 5), list("most", 5, 102, 304));
        Boundary.test("the one of most PAIRS", Boundary.only(10, 6, 9, 108, 207, 306, 405),
            list("most", 9, 108, 207, 306, 405));
        Boundary.test("the one of most PAIRS", Boundary.only(10, 1, 102, 304, 506, 708, 9),
            list("most", 9, 102, 304, 506, 708));
    }

    private static void ways() {
        Boundary.promise(23);
        String none = "(1, if that is 0)";
        Boundary.test(none, "ways() = 1");
        Boundary.test(none, Boundary.plain(3, 1), "ways() = 1");
        Boundary.test(none, THREE_HAD, "ways() = 1");
        Boundary.test(none, Boundary.plain(12, 10), "goes(45)", "ways() = 1");
        String sentence = "how many sets AT ONCE have as many PAIRS as the MOST";
        // plain ones: the numbers of Catalan, for an odd one each who is left out in turn
        int[] due = {1, 1, 1, 3, 2, 10, 5, 35, 14, 126, 42};
        for (int g = 0; g <= 10; g++) {
            Boundary.test(sentence, Boundary.plain(12, g), "ways() = " + due[g]);
        }
        String hosts = "seats(12)\n";
        int[] dueOfHosts = {1, 1, 1, 3, 3, 15, 15, 105, 105, 945, 945};
        for (int g = 0; g <= 10; g++) {
            Boundary.test(sentence, hosts, "ways() = " + dueOfHosts[g]);
            hosts += "guest(6, " + g + ", 0)\n";
        }
        Boundary.test(sentence, Boundary.only(6, 3, 104, 205), "ways() = 3");
        Boundary.test(sentence, Boundary.only(10, 9, 108, 207, 306, 405), "ways() = 1");
        Boundary.test(sentence, Boundary.only(10, 1, 2, 3, 4, 5, 6, 7, 8, 9), "ways() = 9");
        Boundary.test(sentence, Boundary.only(6, 1, 203, 204, 405), "ways() = 1");
    }

    private static void rounds() {
        Boundary.promise(24);
        String until = "always the MOST, then what is WANTED still, until nothing is";
        Boundary.test(until, "rounds() = 0");
        Boundary.test(until, Boundary.plain(3, 1), "rounds() = 0");
        Boundary.test(until, THREE_HAD, "rounds() = 0");
        Boundary.test(until, Boundary.plain(3, 2), "rounds() = 1");
        Boundary.test(until, Boundary.plain(3, 3), "rounds() = 3");
        Boundary.test(until, Boundary.plain(4, 4), "rounds() = 4");
        Boundary.test(until, Boundary.only(4, 2, 103), "rounds() = 2");
        Boundary.test(until, Boundary.only(4, 3, 102), "rounds() = 1");
        Boundary.test(until, Boundary.only(10, 9, 108, 207, 306, 405), "rounds() = 1");
        Boundary.test(until, Boundary.only(10, 1, 2, 3, 4, 5, 6, 7, 8, 9), "rounds() = 9");
        // all five CROSS: one at a time
        Boundary.test(until, Boundary.only(10, 5, 106, 207, 308, 409), "rounds() = 5");
        // by always the MOST it takes one more than it must
        Boundary.test(until, Boundary.only(6, 2, 105, 203, 204, 304, 405), "rounds() = 4", "fewest() = 3");
        Boundary.test("3. WHAT COMES OF IT (nothing is changed)", Boundary.plain(12, 10), "rounds() = " + ROUNDS_OF_TEN,
            "wanted(-1) = 45", "status(2) = 0", "rounds() = " + ROUNDS_OF_TEN);
    }

    private static final int ROUNDS_OF_TEN = 13;

    private static void roundOf() {
        Boundary.promise(25);
        String sentence = "The i-th PAIR of ROUND r (0 on); how many it has (i NONE). -5.";
        String six = Boundary.only(6, 2, 105, 203, 204, 304, 405);
        int[][] due = {{2, 304}, {105, 203}, {204}, {405}};
        for (int r = 0; r < due.length; r++) {
            Boundary.test(sentence, six, list("roundOf(" + r + ",", due[r]));
        }
        for (String r : new String[] {"4", "-1", "44", "45", "46", MIN, MAX}) {
            Boundary.test(sentence, six, "roundOf(" + r + ", -1) ! -5", "roundOf(" + r + ", 0) ! -5");
        }
        Boundary.test(sentence, Boundary.plain(12, 10), list("roundOf(0,", 1, 203, 405, 607, 809));
        Boundary.test(sentence, Boundary.plain(12, 10), "roundOf(" + (ROUNDS_OF_TEN - 1) + ", -1) = 1",
            "roundOf(" + ROUNDS_OF_TEN + ", -1) ! -5");
        Boundary.test(sentence, Boundary.plain(3, 2), list("roundOf(0,", 1), "roundOf(1, -1) ! -5");
        Boundary.test(sentence, "roundOf(0, -1) ! -5", "roundOf(0, 0) ! -5");
        Boundary.test(sentence, THREE_HAD, "roundOf(0, -1) ! -5", "roundOf(0, 0) ! -5");
        Boundary.test(sentence, Boundary.only(6, 3, 5, 102, 304), list("roundOf(0,", 5, 102, 304),
            list("roundOf(1,", 3), "roundOf(2, -1) ! -5");
        Boundary.test(sentence, Boundary.only(6, 3, 5, 102, 304), "rounds() = 2", "had(0, 5, true)", "had(1, 2, true)",
            "had(3, 4, true)", "rounds() = 1", list("roundOf(0,", 3), "roundOf(1, -1) ! -5", "roundOf(1, 0) ! -5");
        Boundary.test(sentence, Boundary.plain(4, 4), "goes(3)", list("roundOf(0,", 103), "roundOf(1, -1) ! -5");
        Boundary.test(BEYOND, Boundary.rich(), "roundOf(45, 45) ! -5");
    }
}
