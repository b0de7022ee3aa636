/** Boundary cases of promises 26 to 36: what comes of the table, and what is told of evenings. */
public final class OutcomesBoundaryTest {
    private static final String MIN = "-2147483648";
    private static final String MAX = "2147483647";
    private static final String ORDER = "the first that fits, in this order";
    private static final String NOTHING_CHANGED = "3. WHAT COMES OF IT (nothing is changed)";
    private static final String NOBODY = "-1 NOBODY: no such SHELF, GUEST";
    private static final String LOWEST_BITS =
        "Elements of a ROW of longs count by their lowest 32 bits wherever a ROW tells something.";
    /** So that nothing is WANTED any more. */
    private static final String THREE_HAD = Boundary.only(3);
    private static final Integer[] STAR = {1, 2, 3, 4, 5, 6, 7, 8, 9};
    private static final Integer[] ALL_CROSS = {5, 106, 207, 308, 409};
    private static final Integer[] NONE_CROSS = {9, 108, 207, 306, 405};

    public static void main(String[] args) {
        fewest();
        bound();
        lasts();
        leftOut();
        never();
        bestChange();
        freeSeat();
        freeSeatRefused();
        judge();
        judgeNumbers();
        eveningRefused(33, "judge", "", 10);
        behind();
        behindRefused();
        told();
        liar();
        toldRefused();
        layers();
        Boundary.end("OutcomesBoundaryTest", 26, 36);
    }

    private static void fewest() {
        Boundary.promise(26);
        String sentence = "the fewest sets AT ONCE by which all that is WANTED (10 PAIRS at most) is HAD";
        Boundary.test(sentence, "fewest() = 0");
        Boundary.test(sentence, Boundary.plain(3, 1), "fewest() = 0");
        Boundary.test(sentence, THREE_HAD, "fewest() = 0");
        Boundary.test(sentence, Boundary.plain(3, 2), "fewest() = 1");
        Boundary.test(sentence, Boundary.plain(5, 5), "wanted(-1) = 10", "fewest() = 5");
        Boundary.test(sentence, Boundary.only(10, 1, 2, 3, 4, 5, 6, 7, 8, 9, 102), "wanted(-1) = 10", "fewest() = 9");
        Boundary.test(sentence, Boundary.only(10, STAR), "fewest() = 9");
        Boundary.test(sentence, Boundary.only(10, ALL_CROSS), "fewest() = 5");
        Boundary.test(sentence, Boundary.only(10, NONE_CROSS), "fewest() = 1");
        Boundary.test(sentence, Boundary.only(6, 2, 105, 203, 204, 304, 405), "fewest() = 3");
        Boundary.test("no GUEST in two, none two of which CROSS", Boundary.only(4, 2, 103), "fewest() = 2");
        Boundary.test("no GUEST in two, none two of which CROSS", Boundary.only(4, 1, 203), "fewest() = 1");
        String more = "-7 more than 10 are WANTED";
        Boundary.test(more, Boundary.only(6, 1, 2, 3, 4, 5, 102, 103, 104, 105, 203, 204), "wanted(-1) = 11",
            "fewest() ! -7", "had(0, 1, true)", "wanted(-1) = 10", "fewest() = 5");
        Boundary.test(more, Boundary.plain(12, 10), "fewest() ! -7");
        Boundary.test(more, Boundary.only(10, 1, 2, 3, 4, 5, 6, 7, 8, 9, 102, 304), "fewest() ! -7");
        Boundary.test(more, Boundary.plain(8, 6), "fewest() ! -7", "leaves()", "fewest() = 5");
    }

    private static void bound() {
        Boundary.promise(27);
        String sentence = "the greatest number of PAIRS one GUEST is WANTED in";
        Boundary.test(sentence, "bound() = 0");
        Boundary.test(sentence, Boundary.plain(3, 1), "bound() = 0");
        Boundary.test(sentence, THREE_HAD, "bound() = 0");
        Boundary.test(sentence, Boundary.plain(3, 2), "bound() = 1");
        Boundary.test(sentence, Boundary.plain(12, 10), "bound() = 9");
        Boundary.test(sentence, Boundary.only(10, STAR), "bound() = 9");
        Boundary.test(sentence, Boundary.only(10, 9, 109, 209, 309, 409, 509, 609, 709, 809), "bound() = 9");
        Boundary.test(sentence, Boundary.only(10, ALL_CROSS), "bound() = 1");
        Boundary.test(sentence, Boundary.only(10, 405, 506, 507), "bound() = 3");
    }

    private static void lasts() {
        Boundary.promise(28);
        String lasts = "the SECONDS of ROUNDS, each as long as its longest clink";
        String alone = "the SECONDS of all that is WANTED, one by one";
        for (String nothing : new String[] {"", Boundary.plain(3, 1), THREE_HAD}) {
            Boundary.test(lasts, nothing, "lasts(0) = 0");
            Boundary.test(alone, nothing, "lasts(1) = 0");
        }
        Boundary.test(lasts, Boundary.plain(3, 2), "lasts(0) = 1", "lasts(1) = 1");
        Boundary.test(lasts, Boundary.plain(12, 10), "lasts(0) = 13", "eyes(1)", "lasts(0) = 26");
        Boundary.test(alone, Boundary.plain(12, 10), "lasts(1) = 45", "eyes(1)", "lasts(1) = 90");
        StringBuilder slow = new StringBuilder("seats(12)\neyes(1)\n");
        for (int g = 0; g < 10; g++) {
            slow.append("guest(2, ").append(g).append(", 9)\n");
        }
        Boundary.test(lasts, slow.toString(), "lasts(0) = 260", "lasts(1) = 900");
        // rounds: 0 1 with 2 3, 0 3 with 1 2, 0 2, 1 3
        String four = "guest(0, 0, 9)\nguest(2, 1, 2)\nguest(2, 2, 5)\nguest(0, 3, 9)\n";
        Boundary.test(lasts, four, "lasts(0) = 21");
        Boundary.test(alone, four, "lasts(1) = 25");
        Boundary.test(lasts, four, "goes(1)", "lasts(0) = 15", "lasts(1) = 16", "goes(45)", "lasts(0) = 0", "lasts(1) = 0");
        // nothing is left of what was asked ahead
        Boundary.test(lasts, Boundary.only(6, 3, 5, 102, 304), "lasts(0) = 2", "had(0, 5, true)", "had(1, 2, true)",
            "had(3, 4, true)", "lasts(0) = 1", "lasts(1) = 1");
        for (String what : new String[] {"-1", "2", MIN, MAX}) {
            Boundary.test("-5 BEYOND", Boundary.rich(), "lasts(" + what + ") ! -5");
            Boundary.test("-5 BEYOND", "lasts(" + what + ") ! -5");
        }
    }

    private static void leftOut() {
        Boundary.promise(29);
        String sentence = "the GUEST who is WANTED in most PAIRS, of several the first";
        Boundary.test(sentence, Boundary.plain(12, 10), "leftOut() = 0");
        Boundary.test(sentence, Boundary.plain(3, 1), "leftOut() = 0");
        Boundary.test(sentence, THREE_HAD, "leftOut() = 0");
        Boundary.test(sentence, Boundary.only(10, 809), "leftOut() = 8");
        Boundary.test(sentence, Boundary.only(5, 102, 103), "leftOut() = 1");
        Boundary.test(sentence, Boundary.only(10, 9, 109, 209, 309, 409, 509, 609, 709, 809), "leftOut() = 9");
        Boundary.test(sentence, Boundary.only(10, 1, 2, 708, 709), "leftOut() = 0");
        Boundary.test(sentence, Boundary.only(10, 1, 708, 709, 304, 305), "leftOut() = 3");
        Boundary.test(sentence, Boundary.only(10, 1, 708, 709, 304, 305, 607), "leftOut() = 7");
        Boundary.test("-5 no GUESTS", "leftOut() ! -5");
        Boundary.test("-5 no GUESTS", "guest(0, 0, 0)", "leftOut() = 0", "leaves()", "leftOut() ! -5");
    }

    private static void never() {
        Boundary.promise(30);
        String sentence = "PAIRS that MAY not be, how many";
        Boundary.test(sentence, "never() = 0");
        Boundary.test(sentence, "guest(5, 0, 0)", "never() = 0");
        Boundary.test(sentence, Boundary.plain(12, 10), "never() = 0", "goes(45)", "never() = 0");
        StringBuilder sober = new StringBuilder("seats(12)\n");
        StringBuilder shy = new StringBuilder("seats(12)\n");
        for (int g = 0; g < 10; g++) {
            sober.append("guest(5, ").append(g).append(", 0)\n");
            shy.append("guest(3, ").append(g).append(", 9)\n");
        }
        Boundary.test(sentence, sober.toString(), "never() = 45");
        Boundary.test(sentence, shy.toString(), "never() = 45");
        Boundary.test(sentence, Boundary.plain(8, 2), "bar(0, 1, true)", "never() = 1", "had(0, 1, true)", "never() = 1",
            "bar(0, 1, false)", "never() = 0");
        Boundary.test(sentence, "guest(1, 0, 0)", "guest(0, 1, 0)", "guest(0, 2, 0)", "never() = 1");
    }

    private static void bestChange() {
        Boundary.promise(31);
        String none = "NONE: by none is it greater than now";
        Boundary.test(none, "bestChange() = -1");
        Boundary.test(none, Boundary.plain(3, 1), "bestChange() = -1");
        Boundary.test(none, Boundary.plain(3, 2), "bestChange() = -1");
        Boundary.test(none, THREE_HAD, "bestChange() = -1");
        Boundary.test(none, Boundary.plain(12, 10), "bestChange() = -1");
        Boundary.test(none, Boundary.only(10, STAR), "bestChange() = -1");
        Boundary.test(none, Boundary.only(4, 3, 102), "bestChange() = -1");
        String first = "the first by whose change of SEATS the MOST is greatest";
        Boundary.test(first, Boundary.only(4, 2, 103), "bestChange() = 1");
        Boundary.test(first, Boundary.only(6, 3, 104, 205), "bestChange() = 2");
        Boundary.test("100 times the lesser and the other", "guest(0, 0, 0)", "guest(1, 4, 0)", "guest(5, 1, 0)",
            "bestChange() = 102");
        Boundary.test("100 times the lesser and the other", "guest(5, 3, 0)", "guest(5, 5, 0)", "guest(0, 0, 0)",
            "guest(1, 4, 0)", "bestChange() = 2", "change(0, 2)", "bestChange() = -1");
        // the two SHORT ones come together by one SOBER one or by the other: by the first
        Boundary.test("100 times the lesser and the other", "guest(1, 0, 0)", "guest(5, 4, 0)", "guest(5, 1, 0)",
            "guest(1, 5, 0)", "bestChange() = 1");
        Boundary.test(NOTHING_CHANGED, Boundary.rich(), "bestChange() = -1");
    }

    private static void freeSeat() {
        Boundary.promise(32);
        String sentence = "by which most PAIRS are WANTED then, of several the first";
        Boundary.test(sentence, "freeSeat(0, 0) = 0");
        Boundary.test(sentence, "freeSeat(6, 9) = 0");
        Boundary.test(sentence, "seats(3)", "guest(0, 0, 0)", "guest(0, 1, 0)", "freeSeat(1, 0) = 2", "freeSeat(5, 0) = 2");
        Boundary.test(sentence, Boundary.plain(10, 9), "freeSeat(1, 0) = 9", "freeSeat(6, 9) = 9");
        Boundary.test(sentence, Boundary.plain(12, 9), "freeSeat(1, 0) = 9", "freeSeat(0, 0) = 9");
        Boundary.test(sentence, "seats(12)", "guest(0, 0, 0)", "guest(0, 10, 0)", "freeSeat(1, 0) = 11",
            "freeSeat(3, 1) = 11", "freeSeat(0, 0) = 1", "freeSeat(5, 9) = 1");
        Boundary.test(sentence, "seats(12)", "guest(0, 0, 0)", "guest(0, 6, 0)", "freeSeat(1, 0) = 1",
            "freeSeat(1, 1) = 1", "freeSeat(1, 2) = 3", "freeSeat(1, 3) = 2", "freeSeat(1, 9) = 1");
        Boundary.test(sentence, "seats(12)", "guest(1, 3, 0)", "guest(1, 5, 0)", "freeSeat(0, 0) = 4",
            "freeSeat(5, 0) = 0", "bar(0, 1, true)", "freeSeat(2, 0) = 4");
        Boundary.test(sentence, "seats(12)", "guest(3, 0, 0)", "freeSeat(3, 9) = 1", "freeSeat(1, 0) = 1");
        Boundary.test("each under GUEST; 3 SHY, under SHORT", "seats(12)", "guest(0, 6, 0)", "freeSeat(3, 0) = 5",
            "freeSeat(1, 0) = 5", "freeSeat(2, 0) = 0", "freeSeat(4, 0) = 0", "freeSeat(6, 0) = 0");
    }

    private static void freeSeatRefused() {
        for (String kind : new String[] {"-1", "7", "31", "32", MIN, MAX}) {
            Boundary.test("-1 KIND", Boundary.rich(), "freeSeat(" + kind + ", 0) ! -1");
        }
        Boundary.test("-5 none", Boundary.plain(3, 3), "freeSeat(0, 0) ! -5", "leaves()", "freeSeat(0, 0) = 2");
        Boundary.test("-5 none", Boundary.plain(9, 9), "freeSeat(6, 9) ! -5");
        for (String a : new String[] {"-1", "10", MIN, MAX}) {
            Boundary.test("-6 a", Boundary.rich(), "freeSeat(0, " + a + ") ! -6");
        }
        Boundary.test("a (0 to 9)", Boundary.plain(8, 1), "freeSeat(1, 0) = 1", "freeSeat(1, 9) = 1");
        Boundary.test("-7 there are 10 GUESTS", Boundary.plain(12, 10), "freeSeat(0, 0) ! -7", "leaves()",
            "freeSeat(0, 0) = 9");
        Boundary.test("-7 there are 10 GUESTS", Boundary.plain(11, 10), "freeSeat(5, 9) ! -7");
        Boundary.test(ORDER, Boundary.plain(3, 3), "freeSeat(7, 0) ! -1 ahead of -5");
        Boundary.test(ORDER, Boundary.rich(), "freeSeat(-1, 10) ! -1 ahead of -6");
        Boundary.test(ORDER, Boundary.plain(12, 10), "freeSeat(7, 0) ! -1 ahead of -7");
        Boundary.test(ORDER, Boundary.plain(3, 3), "freeSeat(0, 10) ! -5 ahead of -6");
        Boundary.test(ORDER, Boundary.plain(10, 10), "freeSeat(0, 0) ! -5 ahead of -7");
        Boundary.test(ORDER, Boundary.plain(12, 10), "freeSeat(0, -1) ! -6 ahead of -7");
        Boundary.test(ORDER, Boundary.plain(10, 10), "freeSeat(7, 10) ! -1", "freeSeat(0, 10) ! -5");
    }

    /** Five GUESTS in 6 SEATS; 0 and 4 have HAD it, 1 and 4 are BARRED. */
    private static final String FIVE = Boundary.plain(6, 5) + "had(0, 4, true)\nbar(1, 4, true)\n";

    private static void judged(String sentence, String told, int due) {
        int n = told.isEmpty() ? 0 : told.split(" ").length;
        Boundary.test(sentence, FIVE, "numbers(0, 2, " + told + ")", "judge(0, " + n + ") = " + due);
    }

    private static void judge() {
        Boundary.promise(33);
        String not = "WRONG: the first that isn't WANTED then";
        judged("WRONG; NONE.", "", -1);
        judged("WRONG; NONE.", "1", -1);
        judged("WRONG; NONE.", "1 203 -1 2 304", -1);
        judged("-1 between two rounds", "-1", -1);
        judged("-1 between two rounds", "-1 -1", -1);
        judged("-1 between two rounds", "-1 1 -1", -1);
        judged("-1 between two rounds", "1 -1 2 -1 3", -1);
        judged(not, "4", 0);
        judged(not, "104", 0);
        judged(not, "1 -1 1", 2);
        judged(not, "1 1", 1);
        judged(not, "1 203 -1 304 -1 203", 5);
        judged("has a GUEST of the same round", "1 2", 1);
        judged("has a GUEST of the same round", "1 102", 1);
        judged("has a GUEST of the same round", "203 2", 1);
        judged("has a GUEST of the same round", "203 3", 1);
        judged("has a GUEST of the same round", "1 203 304", 2);
        judged("or CROSSES one of it", "2 103", 1);
        judged("or CROSSES one of it", "103 2", 1);
        judged("or CROSSES one of it", "103 204", 1);
        judged("or CROSSES one of it", "2 -1 103", -1);
        Boundary.test("or CROSSES one of it", Boundary.plain(8, 8), "numbers(0, 2, 3 405 607 206)",
            "judge(0, 4) = 3", "numbers(1, 2, 3 405 205)", "judge(1, 3) = 2", "numbers(2, 2, 5 607 104)",
            "judge(2, 3) = -1");
        Boundary.test("or CROSSES one of it", Boundary.plain(8, 8), "numbers(0, 2, 3 607 205)", "judge(0, 3) = 2");
        judged("A told evening: a ROW of PAIRS (100 times the lesser and the other)", "100", 0);
        judged("A told evening: a ROW of PAIRS (100 times the lesser and the other)", "0", 0);
        judged("A told evening: a ROW of PAIRS (100 times the lesser and the other)", "404", 0);
        for (String none : new String[] {"-2", "5", "405", "500", "99", "-101", "1000", "65537", MIN, MAX}) {
            judged(not, none, 0);
            judged(not, "1 -1 " + none + " 2", 2);
        }
        Boundary.test(not, Boundary.plain(12, 10), "numbers(0, 2, 1 809)", "judge(0, 2) = -1", "numbers(0, 2, 809 910)",
            "judge(0, 2) = 1");
        Boundary.test("WRONG; NONE.", "row(0, 0, 0)", "judge(0, 0) = -1", "numbers(0, 0, 1)", "judge(0, 1) = 0",
            "numbers(0, 0, -1)", "judge(0, 1) = -1");
    }

    private static void judgeNumbers() {
        String first = "by the first n elements (0 to 60) of the ROW in SHELF s";
        Boundary.test(first, FIVE, "numbers(0, 1, 4 1)", "judge(0, 0) = -1", "judge(0, 1) = 0", "judge(0, 2) = 0");
        Boundary.test(first, FIVE, "numbers(0, 1, 1 -1 1)", "judge(0, 1) = -1", "judge(0, 2) = -1", "judge(0, 3) = 2");
        Boundary.test(first, FIVE, "numbers(0, 1, " + "-1 ".repeat(60) + "4)", "judge(0, 60) = -1", "judge(0, 59) = -1");
        Boundary.test(first, FIVE, "numbers(0, 1, " + "-1 ".repeat(59) + "4)", "judge(0, 60) = 59", "judge(0, 59) = -1");
        Boundary.test(first, FIVE, "numbers(0, 1, 4 " + "-1 ".repeat(59).trim() + ")", "judge(0, 60) = 0");
        Boundary.test(first, "row(0, 1, 160)", "judge(0, 60) = 0", "judge(0, 0) = -1");
        Boundary.test("ROUNDS: always the MOST", Boundary.plain(12, 10),
            "numbers(0, 1, " + eveningOfTen() + ")", "judge(0, " + eveningOfTen().split(" ").length + ") = -1");
        Boundary.test(LOWEST_BITS, FIVE, "numbers(0, 3, 0x100000001 0x7FFFFFFF000000CB 0x00000000FFFFFFFF 0x500000002)",
            "judge(0, 4) = -1");
        Boundary.test(LOWEST_BITS, FIVE, "numbers(0, 3, 0x100000001 0x80000001)", "judge(0, 2) = 1");
        Boundary.test("what is put in keeps its lowest bits", FIVE, "numbers(0, 0, 257 511 258 -1 203)",
            "judge(0, 4) = -1", "judge(0, 5) = 4");
        Boundary.test("what is put in keeps its lowest bits", FIVE, "numbers(0, 1, 65537 65739 65535)",
            "judge(0, 3) = -1");
    }

    /** All ROUNDS of ten plain GUESTS, -1 between each two. */
    private static String eveningOfTen() {
        NoArmsCrossed x = new NoArmsCrossed();
        x.seats(12);
        for (int g = 0; g < 10; g++) {
            x.guest(0, g, 0);
        }
        StringBuilder told = new StringBuilder();
        for (int r = 0; r < x.rounds(); r++) {
            told.append(r == 0 ? "" : "-1 ");
            for (int i = 0; i < x.roundOf(r, -1); i++) {
                told.append(x.roundOf(r, i)).append(' ');
            }
        }
        return told.toString().trim();
    }

    /** The ROW of 62 elements in SHELF 0 has PAIRS that are WRONG, that in SHELF 1 is empty. */
    private static final String ROWS = FIVE + "row(0, 1, 62)\nrow(1, 1, 0)\nshow(2, 4)\n";

    /** judge, or behind with its what; judge answers so much lower. */
    private static void eveningRefused(int promise, String call, String what, int lower) {
        Boundary.promise(promise);
        for (String s : new String[] {"-1", "8", MIN, MAX}) {
            Boundary.test(NOBODY, ROWS, call + "(" + s + ", 0" + what + ") ! " + (-1 - lower));
        }
        Boundary.test("-2 OTHER: a SHELF that holds a GUEST where a ROW is wanted", ROWS,
            call + "(2, 0" + what + ") ! " + (-2 - lower));
        Boundary.test("-3 NOTHING: a SHELF that holds NOTHING", ROWS, call + "(3, 0" + what + ") ! " + (-3 - lower));
        for (String n : new String[] {"-1", MIN}) {
            Boundary.test("-4 BELOW: a size below 0", ROWS, call + "(0, " + n + what + ") ! " + (-4 - lower));
        }
        for (String n : new String[] {"63", MAX}) {
            Boundary.test("-15 fewer elements", ROWS, call + "(0, " + n + what + ") ! " + (-5 - lower));
        }
        Boundary.test("-15 fewer elements", ROWS, call + "(1, 1" + what + ") ! " + (-5 - lower));
        for (String n : new String[] {"61", "62"}) {
            Boundary.test("-16 n above 60", ROWS, call + "(0, " + n + what + ") ! " + (-6 - lower));
        }
        Boundary.test("-16 n above 60", "row(0, 0, 160)", call + "(0, 160" + what + ") ! " + (-6 - lower));
        String[][] both = {{"8, -1", "-1", "-4"}, {"-1, 63", "-1", "-5"}, {"8, 61", "-1", "-6"}, {"2, -1", "-2", "-4"},
            {"2, 1", "-2", "-5"}, {"2, 61", "-2", "-6"}, {"3, -1", "-3", "-4"}, {"3, 1", "-3", "-5"},
            {"3, 61", "-3", "-6"}, {"0, 63", "-5", "-6"}, {"1, 61", "-5", "-6"}};
        for (String[] b : both) {
            Boundary.test(ORDER, ROWS, call + "(" + b[0] + what + ") ! " + (Integer.parseInt(b[1]) - lower)
                + " ahead of " + (Integer.parseInt(b[2]) - lower));
        }
        Boundary.neverBoth(-1 - lower, -2 - lower, "no such SHELF holds anything");
        Boundary.neverBoth(-1 - lower, -3 - lower, "no such SHELF holds anything");
        Boundary.neverBoth(-2 - lower, -3 - lower, "a SHELF with a GUEST holds something");
        if (what.isEmpty()) {
            Boundary.neverBoth(-4 - lower, -5 - lower, "a size below 0 is not beyond what is there");
        }
        Boundary.neverBoth(-4 - lower, -6 - lower, "a size below 0 is not above 60, and no evening");
    }

    private static void behind() {
        Boundary.promise(34);
        String rounds = "rounds: how many (-1 and 1; 0, if it is empty)";
        String four = Boundary.plain(6, 4) + "numbers(0, 1, 1 203 -1 2 -1 -1 103)\n";
        int[][] due = {{0, 6, 0}, {1, 5, 1}, {2, 4, 1}, {3, 4, 2}, {4, 3, 2}, {5, 3, 3}, {6, 3, 4}, {7, 2, 4}};
        for (int[] d : due) {
            Boundary.test("how many are WANTED", four, "behind(0, " + d[0] + ", 0) = " + d[1]);
            Boundary.test(rounds, four, "behind(0, " + d[0] + ", 1) = " + d[2]);
        }
        Boundary.test(rounds, "numbers(0, 0, -1)", "behind(0, 0, 1) = 0", "behind(0, 1, 1) = 2", "behind(0, 1, 0) = 0");
        Boundary.test(rounds, "row(0, 0, 0)", "behind(0, 0, 1) = 0", "behind(0, 0, 0) = 0");
        Boundary.test(rounds, "numbers(0, 1, " + "-1 ".repeat(60).trim() + ")", "behind(0, 60, 1) = 61");
        String ten = eveningOfTen();
        int n = ten.split(" ").length;
        Boundary.test("how many are WANTED", Boundary.plain(12, 10), "numbers(0, 1, " + ten + ")",
            "behind(0, 0, 0) = 45", "behind(0, " + n + ", 0) = 0", "behind(0, " + (n - 1) + ", 0) = 1",
            "behind(0, " + n + ", 1) = 13", "wanted(-1) = 45");
        Boundary.test(LOWEST_BITS, FIVE, "numbers(0, 3, 0x100000001 0x00000000FFFFFFFF 0x500000002)",
            "behind(0, 3, 1) = 2", "behind(0, 3, 0) = 6");
    }

    private static void behindRefused() {
        eveningRefused(34, "behind", ", 0", 0);
        for (String what : new String[] {"-1", "2", MIN, MAX}) {
            Boundary.test("-5 also another what", ROWS, "behind(0, 0, " + what + ") ! -5");
        }
        Boundary.test("-5 also another what", ROWS, "behind(0, 63, 2) ! -5");
        String wrong = "-6 also if it is WRONG";
        Boundary.test(wrong, ROWS, "behind(0, 1, 0) ! -6", "behind(0, 1, 1) ! -6", "behind(0, 60, 0) ! -6",
            "behind(0, 0, 0) = 8");
        Boundary.test(wrong, FIVE, "numbers(0, 1, 1 203 4)", "behind(0, 3, 0) ! -6", "behind(0, 3, 1) ! -6",
            "behind(0, 2, 1) = 1");
        Boundary.test(wrong, FIVE, "numbers(0, 1, 1 203 4)", "behind(0, 3, 2) ! -5 ahead of -6");
        Boundary.test(ORDER, ROWS, "behind(0, 61, 2) ! -5 ahead of -6");
        Boundary.test(ORDER, ROWS, "behind(0, -1, 2) ! -4 ahead of -5");
        Boundary.test(ORDER, ROWS, "behind(8, 0, 2) ! -1 ahead of -5");
        Boundary.test(ORDER, ROWS, "behind(2, 0, -1) ! -2 ahead of -5");
        Boundary.test(ORDER, ROWS, "behind(3, 0, 2) ! -3 ahead of -5");
    }

    private static void said(String sentence, String said, int pairs, int liar) {
        Boundary.test(sentence, Boundary.plain(6, 4), "numbers(0, 2, " + said + ")", "told(0, 0) = " + pairs,
            "told(0, 1) = " + liar);
    }

    private static void told() {
        Boundary.promise(35);
        String pairs = "how many PAIRS one says and the other doesn't";
        said(pairs, "0 0 0 0", 0, -1);
        said(pairs, "14 13 11 7", 0, -1);
        said(pairs, "2 0 0 0", 1, 0);
        said(pairs, "0 1 0 0", 1, 0);
        said(pairs, "0 0 8 0", 1, 2);
        said(pairs, "14 12 8 0", 6, -1);
        said(pairs, "2 4 1 0", 3, -1);
        Boundary.test(pairs, "row(0, 0, 0)", "told(0, 0) = 0", "told(0, 1) = -1");
        Boundary.test(pairs, Boundary.plain(3, 1), "row(0, 0, 1)", "told(0, 0) = 0", "told(0, 1) = -1");
        Boundary.test(pairs, Boundary.plain(12, 10), "numbers(0, 1, 1022 1020 1016 1008 992 960 896 768 512 0)",
            "told(0, 0) = 45", "told(0, 1) = -1");
        Boundary.test(pairs, Boundary.plain(12, 10), "numbers(0, 1, 1022 1021 1019 1015 1007 991 959 895 767 511)",
            "told(0, 0) = 0", "told(0, 1) = -1");
        Boundary.test(pairs, Boundary.plain(6, 4), "had(0, 1, true)", "row(0, 0, 4)", "told(0, 0) = 0");
        Boundary.test("a ROW, for each GUEST bits", Boundary.plain(6, 2), "numbers(0, 0, 2 1 -1 127)", "told(0, 0) = 0",
            "told(0, 1) = -1");
        Boundary.test("a ROW, for each GUEST bits", "numbers(0, 0, -1)", "told(0, 0) = 0");
        Boundary.test("(As ints: of longs the lowest 32 bits.)", Boundary.plain(6, 2), "numbers(0, 3, 0x100000002 0x4000000000000000)",
            "told(0, 0) = 1", "told(0, 1) = 0");
        Boundary.test("what is put in keeps its lowest bits", Boundary.plain(6, 2), "numbers(0, 0, 258 256)",
            "told(0, 0) = 1");
    }

    private static void liar() {
        String sentence = "the first GUEST but for whom (all PAIRS of his left out) there are none such";
        said(sentence, "12 0 0 0", 2, 0);
        said(sentence, "0 13 0 0", 3, 1);
        said(sentence, "0 0 1 4", 2, 2);
        said(sentence, "0 0 0 7", 3, 3);
        said(sentence, "0 0 0 4", 1, 2);
        said(sentence, "8 8 8 0", 3, 3);
        said("NONE (also if there are none at all)", "2 1 8 4", 0, -1);
        said("NONE (also if there are none at all)", "2 0 8 0", 2, -1);
        Boundary.test(sentence, Boundary.plain(12, 10), "numbers(0, 1, 512 512 512 512 512 512 512 512 512 0)",
            "told(0, 0) = 9", "told(0, 1) = 9");
        Boundary.test(sentence, Boundary.plain(12, 10), "numbers(0, 1, 0 0 0 0 0 0 0 0 512 0)", "told(0, 0) = 1",
            "told(0, 1) = 8");
    }

    private static void toldRefused() {
        String rows = Boundary.plain(8, 4) + "numbers(0, 2, 2 1 0)\nnumbers(1, 2, 16 0 0 0)\nshow(2, 0)\nrow(4, 1, 4)\n";
        for (String s : new String[] {"-1", "8", MIN, MAX}) {
            Boundary.test(NOBODY, rows, "told(" + s + ", 0) ! -11", "told(" + s + ", 1) ! -11");
        }
        Boundary.test("-2 OTHER: a SHELF that holds a GUEST where a ROW is wanted", rows, "told(2, 0) ! -12");
        Boundary.test("-3 NOTHING: a SHELF that holds NOTHING", rows, "told(3, 1) ! -13");
        Boundary.test("-15 fewer elements than GUESTS, another what", rows, "told(0, 0) ! -15", "told(0, 1) ! -15");
        Boundary.test("-15 fewer elements than GUESTS, another what", rows, "leaves()", "told(0, 0) = 0");
        Boundary.test("-15 fewer elements than GUESTS, another what", Boundary.plain(8, 1), "row(0, 0, 0)",
            "told(0, 0) ! -15");
        for (String what : new String[] {"-1", "2", MIN, MAX}) {
            Boundary.test("-15 fewer elements than GUESTS, another what", rows, "told(4, " + what + ") ! -15");
        }
        Boundary.test("-15 fewer elements than GUESTS, another what", rows, "told(0, 2) ! -15");
        String bits = "-16 bits of others than there are, or of oneself (counted as -1 to -6).";
        String[] not = {"1 0 0 0", "0 2 0 0", "0 0 4 0", "0 0 0 8", "16 0 0 0", "0 0 0 16", "0 32 0 0", "0 0 -8 0",
            "-1 0 0 0", "0 0 0 " + MIN, "0 0 1073741824 0", "15 13 11 7"};
        for (String n : not) {
            Boundary.test(bits, Boundary.plain(8, 4), "numbers(0, 2, " + n + ")", "told(0, 0) ! -16", "told(0, 1) ! -16");
        }
        Boundary.test(bits, Boundary.plain(8, 8), "numbers(0, 0, 128 0 0 0 0 0 0 0)", "told(0, 0) ! -16",
            "numbers(0, 1, 128 0 0 0 0 0 0 0)", "told(0, 0) = 1", "leaves()", "told(0, 0) ! -16");
        Boundary.test(bits, Boundary.plain(12, 10), "numbers(0, 1, 0 0 0 0 0 0 0 0 0 512)", "told(0, 0) ! -16",
            "numbers(0, 1, 0 0 0 0 0 0 0 0 0 1024)", "told(0, 0) ! -16", "numbers(0, 1, 0 0 0 0 0 0 0 0 0 256)",
            "told(0, 0) = 1");
        Boundary.test(bits, Boundary.plain(8, 1), "numbers(0, 1, 1)", "told(0, 0) ! -16", "numbers(0, 1, 2)",
            "told(0, 0) ! -16");
        Boundary.test(ORDER, rows, "told(8, 2) ! -11 ahead of -15");
        Boundary.test(ORDER, rows, "told(2, -1) ! -12 ahead of -15");
        Boundary.test(ORDER, rows, "told(3, 2) ! -13 ahead of -15");
        Boundary.test(ORDER, rows, "told(1, 2) ! -15 ahead of -16");
        Boundary.test(ORDER, Boundary.plain(8, 4), "numbers(0, 2, 16 0 0)", "told(0, 0) ! -15 ahead of -16");
        Boundary.neverBoth(-11, -12, "no such SHELF holds anything");
        Boundary.neverBoth(-11, -13, "no such SHELF holds anything");
        Boundary.neverBoth(-11, -16, "no such SHELF holds bits");
        Boundary.neverBoth(-12, -13, "a SHELF with a GUEST holds something");
        Boundary.neverBoth(-12, -16, "a SHELF with a GUEST holds no bits");
        Boundary.neverBoth(-13, -16, "a SHELF with NOTHING holds no bits");
    }

    private static void layers() {
        Boundary.promise(36);
        String nothing = "LAYERS (0: nothing is WANTED).";
        Boundary.test(nothing, "layers() = 0");
        Boundary.test(nothing, Boundary.plain(3, 1), "layers() = 0");
        Boundary.test(nothing, THREE_HAD, "layers() = 0");
        Boundary.test(nothing, Boundary.plain(12, 10), "goes(45)", "layers() = 0");
        String first = "PAIRS in order, each into the first layer in which it CROSSES none";
        Boundary.test(first, Boundary.plain(3, 2), "layers() = 1");
        Boundary.test(first, Boundary.plain(3, 3), "layers() = 1");
        Boundary.test(first, Boundary.plain(4, 4), "layers() = 2");
        Boundary.test(first, Boundary.only(10, ALL_CROSS), "layers() = 5");
        Boundary.test(first, Boundary.only(10, NONE_CROSS), "layers() = 1");
        // 2 and 5 lie in one layer; 104 CROSSES 2 alone, 207 CROSSES 5 and 104, 306 CROSSES 5, 104 and no more
        Boundary.test(first, Boundary.only(8, 2, 5, 104, 207), "layers() = 3");
        Boundary.test(first, Boundary.only(8, 3, 105, 207, 406), "layers() = 3");
        // both CROSS the first PAIR, not each other
        Boundary.test(first, Boundary.only(5, 2, 103, 104), "layers() = 2");
        Boundary.test(NOTHING_CHANGED, Boundary.plain(12, 10), "rounds() = 13", "layers() = 8", "layers() = 8",
            "fewest() ! -7", "layers() = 8");
        Boundary.test(first, Boundary.only(4, 2, 103), "layers() = 2", "change(0, 1)", "layers() = 1", "change(0, 1)",
            "layers() = 2");
        Boundary.test("(a GUEST may be in several of one layer)", Boundary.only(10, STAR), "layers() = 1");
        Boundary.test("not, if a HOST is among the four", "guest(6, 0, 0)", "guest(0, 1, 0)", "guest(0, 2, 0)",
            "guest(0, 3, 0)", "layers() = 1");
        Boundary.test("nor if there is a LEFTY in each", "guest(4, 0, 0)", "guest(4, 1, 0)", "guest(0, 2, 0)",
            "guest(0, 3, 0)", "layers() = 1");
    }
}
