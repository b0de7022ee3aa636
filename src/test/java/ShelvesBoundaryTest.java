/** Boundary cases of promises 1 to 8: a new object, SHELVES and what they hold. */
public final class ShelvesBoundaryTest {
    private static final String MIN = "-2147483648";
    private static final String MAX = "2147483647";

    public static void main(String[] args) {
        newObject();
        nothingAtATable();
        row();
        rowRefused();
        set();
        setRefused();
        copy();
        copyRefused();
        element();
        show();
        holds();
        says();
        saysNumbers();
        saysRefused();
        Boundary.end("ShelvesBoundaryTest", 1, 8);
    }

    private static void newObject() {
        Boundary.promise(1);
        Boundary.test("8 SEATS, no GUESTS", """
            status(1) = 8
            status(0) = 0
            guestOf(0, 0) ! -5
            guest(0, 8, 0) ! -6
            guest(0, 7, 0) = 0
            """);
        Boundary.test("SEATS are 0 to n less 1 (n 3 to 12; 8 at first)", "seats(8) = 8 same");
        Boundary.test("each may be BARRED, and may have HAD its clink (neither, at first)", Boundary.plain(12, 10), """
            guestOf(0, 3) = 0
            guestOf(0, 4) = 0
            guestOf(9, 3) = 0
            guestOf(9, 4) = 0
            status(2) = 0
            """);
        Boundary.test("EYES (0 or 1; 0 at first)", "status(5) = 0", "eyes(0) = 0 same");
        Boundary.test("SEED (1 at first)", "status(6) = 1", "seed(1) = 1 same");
        Boundary.test("CLINKS, SECONDS are counted", "status(3) = 0", "status(4) = 0");
        Boundary.test("SHELVES 0 to 7 hold NOTHING (at first)", """
            holds(0) = -1
            holds(1) = -1
            holds(2) = -1
            holds(3) = -1
            holds(4) = -1
            holds(5) = -1
            holds(6) = -1
            holds(7) = -1
            """);
        Boundary.test("NONE: there was none, or none yet.", "fault() = -1");
        Boundary.test("NONE: none such.", "trace(0) = -1", "status(7) = 0");
        Boundary.test("-6 there is none.", "restore() ! -6");
        Boundary.test("11 to 17: REFUSALS -1 to -7.", """
            status(11) = 0
            status(12) = 0
            status(13) = 0
            status(14) = 0
            status(15) = 0
            status(16) = 0
            status(17) = 0
            """);
        Boundary.test("public static final int NONE = -1;");
        Boundary.is("NONE", NoArmsCrossed.NONE, -1);
        Boundary.test("`NoArmsCrossed()`: 8 SEATS, no GUESTS.");
        NoArmsCrossed one = new NoArmsCrossed();
        one.seats(3);
        one.guest(0, 0, 0);
        one.row(0, 0, 1);
        one.eyes(1);
        one.seed(2);
        one.eyes(2);
        NoArmsCrossed two = new NoArmsCrossed();
        Boundary.is("SEATS of another object", two.status(1), 8);
        Boundary.is("GUESTS of another object", two.status(0), 0);
        Boundary.is("a SHELF of another object", two.holds(0), -1);
        Boundary.is("EYES of another object", two.status(5), 0);
        Boundary.is("SEED of another object", two.status(6), 1);
        Boundary.is("REFUSALS of another object", two.status(16), 0);
    }

    private static void nothingAtATable() {
        Boundary.test("`NoArmsCrossed()`: 8 SEATS, no GUESTS.", """
            wanted(-1) = 0
            wanted(0) ! -5
            most(-1) = 0
            most(0) ! -5
            ways() = 1
            rounds() = 0
            roundOf(0, -1) ! -5
            fewest() = 0
            bound() = 0
            lasts(0) = 0
            lasts(1) = 0
            leftOut() ! -5
            never() = 0
            bestChange() = -1
            freeSeat(0, 0) = 0
            layers() = 0
            """);
        Boundary.test("`NoArmsCrossed()`: 8 SEATS, no GUESTS.", """
            far(0, 1) ! -1
            may(0, 1) ! -1
            takes(0, 1) ! -1
            cross(0, 1, 2, 3) ! -1
            bar(0, 1, true) ! -1
            had(0, 1, true) ! -1
            clink(0, 1) ! -1
            change(0, 1) ! -1
            show(0, 0) ! -1
            leaves() ! -6
            feast(1) ! -5
            goes(1) = 0 same
            act(0, 0, 5) = 0 same
            """);
    }

    private static void row() {
        Boundary.promise(2);
        Boundary.test("SHELVES 0 to 7", "row(0, 0, 1) = 1", "holds(0) = 100");
        Boundary.test("SHELVES 0 to 7", "row(7, 0, 1) = 1", "holds(7) = 100");
        Boundary.test("a SORT (0 bytes, 1 shorts, 2 ints, 3 longs)", "row(0, 0, 1) = 1", "holds(0) = 100");
        Boundary.test("a SORT (0 bytes, 1 shorts, 2 ints, 3 longs)", "row(0, 3, 1) = 1", "holds(0) = 103");
        Boundary.test("0 to 160 elements", "row(0, 0, 0) = 1", "holds(0) = 100", "set(0, 0, 1) ! -5");
        Boundary.test("0 to 160 elements", """
            row(0, 3, 160) = 1
            set(0, 159, 7) = 1
            element(0, 159) = 7
            set(0, 160, 7) ! -5
            """);
        Boundary.test("0 to 160 elements, 0 at first", """
            row(0, 3, 160)
            set(0, 0, -1)
            set(0, 159, -1)
            row(0, 3, 160) = 1
            element(0, 0) = 0
            element(0, 159) = 0
            """);
        Boundary.test("0 to 160 elements, 0 at first", """
            numbers(0, 3, 5 6 7)
            row(0, 3, 1) = 1
            row(0, 3, 3) = 1
            element(0, 1) = 0
            element(0, 2) = 0
            """);
        Boundary.test("SHELF s holds a new ROW: 1.", """
            numbers(0, 3, 5 6 7)
            row(0, 1, 2) = 1
            holds(0) = 101
            element(0, 0) = 0
            element(0, 2) = 0
            set(0, 2, 7) ! -5
            set(0, 1, 65536) = 1
            element(0, 1) = 0
            """);
        Boundary.test("SHELF s holds a new ROW: 1.", """
            guest(0, 3, 0)
            show(4, 0)
            row(4, 2, 0) = 1
            holds(4) = 102
            says(4, 0) ! -2
            """);
        Boundary.test("SHELF s holds a new ROW: 1.", """
            numbers(0, 0, 1)
            numbers(1, 0, 2)
            numbers(7, 0, 3)
            row(1, 0, 1) = 1
            element(0, 0) = 1
            element(1, 0) = 0
            element(7, 0) = 3
            """);
    }

    private static void rowRefused() {
        for (String s : new String[] {"-1", "8", MIN, MAX}) {
            Boundary.test("-1 NOBODY: no such SHELF", Boundary.rich(), "row(" + s + ", 0, 0) ! -1");
        }
        for (String n : new String[] {"-1", MIN}) {
            Boundary.test("-4 BELOW: a size below 0", Boundary.rich(), "row(0, 0, " + n + ") ! -4");
        }
        for (String sort : new String[] {"-1", "4", MIN, MAX}) {
            Boundary.test("-6 SORT", Boundary.rich(), "row(1, " + sort + ", 2) ! -6");
        }
        for (String n : new String[] {"161", MAX}) {
            Boundary.test("-7 n above 160", Boundary.rich(), "row(0, 0, " + n + ") ! -7");
        }
        String order = "the first that fits, in this order";
        Boundary.test(order, Boundary.rich(), "row(8, 0, -1) ! -1 ahead of -4");
        Boundary.test(order, Boundary.rich(), "row(-1, 4, 0) ! -1 ahead of -6");
        Boundary.test(order, Boundary.rich(), "row(8, 3, 161) ! -1 ahead of -7");
        Boundary.test(order, Boundary.rich(), "row(0, 4, -1) ! -4 ahead of -6");
        Boundary.neverBoth(-4, -7, "one size is not below 0 and above 160");
        Boundary.test(order, Boundary.rich(), "row(0, -1, 161) ! -6 ahead of -7");
        Boundary.test(order, Boundary.rich(), "row(8, 4, 161) ! -1");
    }

    private static void kept(int sort, String put, String kept) {
        Boundary.test("what is put in keeps its lowest bits", "row(0, " + sort + ", 2)", "set(0, 1, " + put + ") = 1",
            "element(0, 1) = " + kept, "element(0, 0) = 0");
    }

    private static void set() {
        Boundary.promise(3);
        String[][] bytes = {{"127", "127"}, {"128", "-128"}, {"-128", "-128"}, {"-129", "127"}, {"255", "-1"},
            {"256", "0"}, {"-1", "-1"}, {"-9223372036854775808", "0"}, {"9223372036854775807", "-1"}};
        for (String[] b : bytes) {
            kept(0, b[0], b[1]);
        }
        String[][] shorts = {{"32767", "32767"}, {"32768", "-32768"}, {"-32768", "-32768"}, {"-32769", "32767"},
            {"65535", "-1"}, {"65536", "0"}, {"255", "255"}, {"-9223372036854775808", "0"}};
        for (String[] s : shorts) {
            kept(1, s[0], s[1]);
        }
        String[][] ints = {{"2147483647", "2147483647"}, {"2147483648", "-2147483648"},
            {"-2147483648", "-2147483648"}, {"-2147483649", "2147483647"}, {"4294967295", "-1"}, {"4294967296", "0"},
            {"65535", "65535"}, {"9223372036854775807", "-1"}};
        for (String[] i : ints) {
            kept(2, i[0], i[1]);
        }
        String[] longs = {"9223372036854775807", "-9223372036854775808", "4294967296", "-1"};
        for (String v : longs) {
            kept(3, v, v);
        }
        Boundary.test("Element i of the ROW becomes v: 1.", """
            row(0, 2, 3)
            set(0, 0, 5) = 1
            set(0, 2, 6) = 1
            set(0, 2, 6) = 1 same
            element(0, 0) = 5
            element(0, 1) = 0
            element(0, 2) = 6
            """);
    }

    private static void setRefused() {
        for (String s : new String[] {"-1", "8", MIN, MAX}) {
            Boundary.test("-1 NOBODY: no such SHELF", Boundary.rich(), "set(" + s + ", 0, 9) ! -1");
        }
        Boundary.test("-2 OTHER: a SHELF that holds a GUEST where a ROW is wanted", Boundary.rich(),
            "set(2, 0, 9) ! -2");
        Boundary.test("-3 NOTHING: a SHELF that holds NOTHING", Boundary.rich(), "set(4, 0, 9) ! -3");
        for (String i : new String[] {"-1", "3", "159", "160", MIN, MAX}) {
            Boundary.test("-5 BEYOND: an element that isn't there", Boundary.rich(), "set(0, " + i + ", 9) ! -5");
        }
        Boundary.test("-5 BEYOND: an element that isn't there", Boundary.rich(), "set(6, 0, 9) ! -5");
        Boundary.test("-5 BEYOND: an element that isn't there", "row(0, 0, 160)", "set(0, 160, 9) ! -5");
        String order = "the first that fits, in this order";
        Boundary.neverBoth(-1, -2, "no such SHELF holds anything");
        Boundary.neverBoth(-1, -3, "no such SHELF holds anything");
        Boundary.neverBoth(-2, -3, "a SHELF with a GUEST holds something");
        Boundary.test(order, Boundary.rich(), "set(8, -1, 9) ! -1 ahead of -5");
        Boundary.test(order, Boundary.rich(), "set(2, -1, 9) ! -2 ahead of -5");
        Boundary.test(order, Boundary.rich(), "set(4, 0, 9) ! -3 ahead of -5");
    }

    private static void copy() {
        Boundary.promise(4);
        Boundary.test("n of them, come to elements j, j + 1, ..", """
            numbers(0, 2, 10 11 12)
            numbers(7, 2, 20 21)
            copy(0, 7, 1, 0, 2) = 1
            element(7, 0) = 11
            element(7, 1) = 12
            element(0, 1) = 11
            """);
        Boundary.test("n of them, come to elements j, j + 1, ..", """
            numbers(0, 2, 10 11 12)
            numbers(7, 2, 20 21)
            copy(0, 7, 0, 0, 0) = 1 same
            copy(0, 7, 3, 2, 0) = 1 same
            copy(7, 0, 2, 3, 0) = 1 same
            """);
        Boundary.test("n of them, come to elements j, j + 1, ..", """
            row(0, 3, 0)
            row(1, 3, 0)
            copy(0, 1, 0, 0, 0) = 1 same
            copy(0, 0, 0, 0, 0) = 1 same
            """);
        Boundary.test("n of them, come to elements j, j + 1, ..", """
            row(0, 3, 160)
            row(1, 3, 160)
            set(0, 0, 5)
            set(0, 159, 9223372036854775807)
            copy(0, 1, 0, 0, 160) = 1
            element(1, 0) = 5
            element(1, 159) = 9223372036854775807
            copy(0, 1, 159, 0, 1) = 1
            element(1, 0) = 9223372036854775807
            copy(1, 0, 0, 158, 1) = 1
            element(0, 158) = 9223372036854775807
            """);
        for (String sort : new String[] {"0", "1", "2", "3"}) {
            Boundary.test("n of them, come to elements j, j + 1, ..", "numbers(0, " + sort + ", -7 100)",
                "row(1, " + sort + ", 2)", "copy(0, 1, 0, 0, 2) = 1", "element(1, 0) = -7", "element(1, 1) = 100");
        }
        Boundary.test("(as they were ahead)", """
            numbers(0, 2, 1 2 3 4)
            copy(0, 0, 0, 1, 3) = 1
            element(0, 0) = 1
            element(0, 1) = 1
            element(0, 2) = 2
            element(0, 3) = 3
            """);
        Boundary.test("(as they were ahead)", """
            numbers(0, 2, 1 2 3 4)
            copy(0, 0, 1, 0, 3) = 1
            element(0, 0) = 2
            element(0, 1) = 3
            element(0, 2) = 4
            element(0, 3) = 4
            """);
        Boundary.test("(as they were ahead)", "numbers(0, 2, 1 2 3 4)", "copy(0, 0, 0, 0, 4) = 1 same");
    }

    /** Two ROWS of ints of 3 and 2 elements, one of bytes, a GUEST in 3, NOTHING in 4. */
    private static final String ROWS = """
        guest(0, 0, 0)
        numbers(0, 2, 10 11 12)
        numbers(1, 2, 20 21)
        numbers(2, 0, 30)
        show(3, 0)
        """;

    private static void copyRefused() {
        for (String s : new String[] {"-1", "8", MIN, MAX}) {
            Boundary.test("-1 NOBODY: no such SHELF", ROWS, "copy(" + s + ", 1, 0, 0, 1) ! -1");
            Boundary.test("-1 NOBODY: no such SHELF", ROWS, "copy(0, " + s + ", 0, 0, 1) ! -1");
        }
        Boundary.test("-2 OTHER: a SHELF that holds a GUEST where a ROW is wanted", ROWS, "copy(3, 0, 0, 0, 0) ! -2");
        Boundary.test("-2 OTHER: a SHELF that holds a GUEST where a ROW is wanted", ROWS, "copy(0, 3, 0, 0, 0) ! -2");
        Boundary.test("-2 OTHER: a SHELF that holds a GUEST where a ROW is wanted", ROWS, "copy(3, 3, 0, 0, 0) ! -2");
        Boundary.test("-2 also of two SORTS (when both hold something)", ROWS, "copy(0, 2, 0, 0, 1) ! -2");
        Boundary.test("-2 also of two SORTS (when both hold something)", ROWS, "copy(2, 0, 0, 0, 0) ! -2");
        Boundary.test("-2 also of two SORTS (when both hold something)", ROWS, "copy(2, 4, 0, 0, 0) ! -3");
        Boundary.test("-3 either", ROWS, "copy(4, 0, 0, 0, 0) ! -3");
        Boundary.test("-3 either", ROWS, "copy(0, 4, 0, 0, 0) ! -3");
        Boundary.test("-3 either", ROWS, "copy(4, 4, 0, 0, 0) ! -3");
        Boundary.test("-3 either", ROWS, "copy(4, 5, 0, 0, 0) ! -3");
        for (String n : new String[] {"-1", MIN}) {
            Boundary.test("-4 n", ROWS, "copy(0, 1, 0, 0, " + n + ") ! -4");
        }
        String[] beyond = {"-1, 0, 1", "0, -1, 1", "-1, 0, 0", "0, -1, 0", "-1, 0, 2", "0, -1, 2", MIN + ", 0, 1",
            "0, " + MIN + ", 1"};
        for (String b : beyond) {
            Boundary.test("-5 i or j below 0", ROWS, "copy(0, 1, " + b + ") ! -5");
        }
        String[] ends = {"2, 0, 2", "0, 1, 2", "0, 0, 3", "3, 0, 1", "0, 2, 1", "4, 0, 0", "0, 3, 0", "0, 0, 4",
            "1, 1, " + MAX, MAX + ", 0, 1", "0, " + MAX + ", 1", MAX + ", " + MAX + ", " + MAX, MAX + ", 0, 0",
            "0, " + MAX + ", 0"};
        for (String e : ends) {
            Boundary.test("or an end that isn't there", ROWS, "copy(0, 1, " + e + ") ! -5");
        }
        Boundary.test("or an end that isn't there", "row(0, 0, 160)", "copy(0, 0, 0, 1, 160) ! -5");
        copyRefusedTwice();
    }

    private static void copyRefusedTwice() {
        String order = "the first that fits, in this order";
        Boundary.test(order, ROWS, "copy(8, 3, 0, 0, 0) ! -1 ahead of -2");
        Boundary.test(order, ROWS, "copy(3, -1, 0, 0, 0) ! -1 ahead of -2");
        Boundary.test(order, ROWS, "copy(4, 8, 0, 0, 0) ! -1 ahead of -3");
        Boundary.test(order, ROWS, "copy(8, 4, 0, 0, 0) ! -1 ahead of -3");
        Boundary.test(order, ROWS, "copy(8, 0, 0, 0, -1) ! -1 ahead of -4");
        Boundary.test(order, ROWS, "copy(0, 8, -1, 0, 1) ! -1 ahead of -5");
        Boundary.test(order, ROWS, "copy(3, 4, 0, 0, 0) ! -2 ahead of -3");
        Boundary.test(order, ROWS, "copy(4, 3, 0, 0, 0) ! -2 ahead of -3");
        Boundary.test(order, ROWS, "copy(3, 0, 0, 0, -1) ! -2 ahead of -4");
        Boundary.test(order, ROWS, "copy(0, 2, 0, 0, -1) ! -2 ahead of -4");
        Boundary.test(order, ROWS, "copy(0, 3, 0, 0, 1) ! -2 ahead of -5");
        Boundary.test(order, ROWS, "copy(0, 2, 0, 5, 1) ! -2 ahead of -5");
        Boundary.test(order, ROWS, "copy(0, 4, 0, 0, -1) ! -3 ahead of -4");
        Boundary.test(order, ROWS, "copy(4, 0, 0, 0, -1) ! -3 ahead of -4");
        Boundary.test(order, ROWS, "copy(0, 4, -1, 0, 1) ! -3 ahead of -5");
        Boundary.test(order, ROWS, "copy(4, 0, 0, 5, 1) ! -3 ahead of -5");
        Boundary.test(order, ROWS, "copy(0, 1, -1, 0, -1) ! -4 ahead of -5");
        Boundary.test(order, ROWS, "copy(0, 1, 0, 5, -1) ! -4 ahead of -5");
    }

    private static void element() {
        Boundary.promise(5);
        Boundary.test("Element i of the ROW", "numbers(0, 3, 5 6 7)", "element(0, 0) = 5", "element(0, 2) = 7");
        Boundary.test("Element i of the ROW", "row(7, 1, 160)", "set(7, 159, -3)", "element(7, 159) = -3",
            "element(7, 158) = 0");
        String[] none = {"-1, 0", "8, 0", MIN + ", 0", MAX + ", 0", "0, -1", "0, 3", "0, 160", "0, " + MIN, "0, " + MAX,
            "6, 0", "2, 0", "4, 0", "-1, -1", "8, 160"};
        for (String n : none) {
            Boundary.test("0 if there is none (nothing is refused)", Boundary.rich(), "element(" + n + ") = 0");
        }
        Boundary.test("0 if there is none (nothing is refused)", """
            guest(0, 0, 0)
            numbers(0, 3, 5 6)
            numbers(1, 3, 5 6)
            show(0, 0)
            show(1, -1)
            element(0, 0) = 0
            element(1, 1) = 0
            """);
        Boundary.test("0 if there is none (nothing is refused)", "numbers(0, 3, 5 6)", "row(0, 3, 1)",
            "element(0, 1) = 0");
    }

    private static void show() {
        Boundary.promise(6);
        Boundary.test("SHELF s holds a GUEST, or NOTHING (guest NONE): 1, 0.", Boundary.plain(12, 10), """
            show(0, 0) = 1
            holds(0) = 0
            show(7, 9) = 1
            holds(7) = 9
            show(7, 9) = 1 same
            show(7, 8) = 1
            holds(7) = 8
            """);
        Boundary.test("SHELF s holds a GUEST, or NOTHING (guest NONE): 1, 0.", """
            show(0, -1) = 0 same
            guest(0, 0, 0)
            show(7, 0) = 1
            show(7, -1) = 0
            holds(7) = -1
            """);
        Boundary.test("SHELF s holds a GUEST, or NOTHING (guest NONE): 1, 0.", """
            guest(0, 0, 0)
            row(0, 2, 4)
            row(1, 2, 4)
            show(0, 0) = 1
            holds(0) = 0
            set(0, 0, 1) ! -2
            show(1, -1) = 0
            holds(1) = -1
            set(1, 0, 1) ! -3
            """);
        for (String s : new String[] {"-1", "8", MIN, MAX}) {
            Boundary.test("-1 NOBODY: no such SHELF", Boundary.rich(), "show(" + s + ", 0) ! -1");
            Boundary.test("-1 NOBODY: no such SHELF", Boundary.rich(), "show(" + s + ", -1) ! -1");
        }
        for (String g : new String[] {"-2", "7", "10", "100", MIN, MAX}) {
            Boundary.test("-1 NOBODY: no such SHELF, GUEST", Boundary.rich(), "show(0, " + g + ") ! -1");
            Boundary.test("-1 NOBODY: no such SHELF, GUEST", Boundary.rich(), "show(2, " + g + ") ! -1");
        }
        Boundary.test("-1 NOBODY: no such SHELF, GUEST", Boundary.rich(), "show(8, 7) ! -1");
    }

    private static void holds() {
        Boundary.promise(7);
        for (String s : new String[] {"-1", "8", MIN, MAX}) {
            Boundary.test("NONE NOTHING, or no such SHELF", Boundary.rich(), "holds(" + s + ") = -1");
        }
        Boundary.test("NONE NOTHING, or no such SHELF", Boundary.rich(), "holds(4) = -1", "holds(7) = -1");
        Boundary.test("a GUEST's number", Boundary.plain(12, 10), """
            show(0, 0)
            show(7, 9)
            holds(0) = 0
            holds(7) = 9
            """);
        for (int sort = 0; sort < 4; sort++) {
            Boundary.test("100 and the SORT of a ROW", "row(0, " + sort + ", 0)", "row(7, " + sort + ", 160)",
                "holds(0) = " + (100 + sort), "holds(7) = " + (100 + sort));
        }
    }

    /** Of each KIND: those that it is, itself and what it is under. */
    private static void says() {
        Boundary.promise(8);
        int[][] lines = {{0}, {0, 1}, {0, 2}, {0, 1, 3}, {0, 4}, {0, 2, 5}, {0, 4, 6}};
        String sentence = "0 GUEST; 1 SHORT, 2 SLOW, 4 LEFTY, each under GUEST; 3 SHY, under SHORT; 5 SOBER, under SLOW;"
            + " 6 HOST, under LEFTY";
        for (int kind = 0; kind < 7; kind++) {
            for (int as = 0; as < 7; as++) {
                boolean is = false;
                for (int one : lines[kind]) {
                    is |= one == as;
                }
                // alone in SEAT 2 with an a of 3: WANTED with none
                int[] words = {2, 0, 4, 0, 0, 3, 0};
                Boundary.test(is ? sentence : "-2 also a GUEST of another KIND", "guest(" + kind + ", 2, 3)",
                    "show(5, 0)", "says(5, " + as + ")" + (is ? " = " + words[as] : " ! -2"));
            }
        }
    }

    private static void saysNumbers() {
        Boundary.test("GUEST his SEAT", "seats(12)", "guest(0, 0, 9)", "guest(0, 11, 0)", "show(0, 0)", "show(7, 1)",
            "says(0, 0) = 0", "says(7, 0) = 11");
        String nine = "seats(12)\nguest(3, 0, 9)\nguest(6, 1, 9)\nguest(4, 2, 9)\nguest(0, 3, 0)\nguest(0, 4, 0)\n"
            + "guest(0, 5, 0)\nguest(0, 6, 0)\nguest(0, 7, 0)\nguest(0, 8, 0)\nguest(1, 9, 9)\n"
            + "show(0, 0)\nshow(1, 1)\nshow(2, 2)\nshow(3, 9)\n";
        Boundary.test("SHORT, SHY with how many others a clink MAY be", nine, "says(0, 3) = 9", "says(0, 1) = 9",
            "says(3, 1) = 9");
        Boundary.test("SHORT, SHY with how many others a clink MAY be", nine, "had(0, 9, true)", "says(0, 3) = 9",
            "says(3, 1) = 9", "bar(0, 9, true)", "says(0, 3) = 8", "says(3, 1) = 8");
        Boundary.test("SHORT, SHY with how many others a clink MAY be", """
            guest(3, 0, 0)
            guest(0, 2, 0)
            guest(5, 1, 0)
            guest(3, 7, 9)
            show(0, 0)
            says(0, 3) = 0
            says(0, 1) = 0
            """);
        Boundary.test("SLOW how long a clink takes him alone, without EYES", """
            guest(2, 0, 0)
            guest(2, 1, 9)
            guest(5, 2, 9)
            show(0, 0)
            show(1, 1)
            show(2, 2)
            says(0, 2) = 1
            says(1, 2) = 10
            says(2, 2) = 10
            eyes(1)
            says(0, 2) = 1
            says(1, 2) = 10
            says(2, 2) = 10
            """);
        Boundary.test("LEFTY, HOST in how many PAIRS he is WANTED", nine, "says(1, 6) = 9", "says(1, 4) = 9",
            "says(2, 4) = 9", "had(1, 2, true)", "says(1, 6) = 8", "says(2, 4) = 8");
        Boundary.test("LEFTY, HOST in how many PAIRS he is WANTED", "guest(4, 0, 9)", "guest(6, 1, 9)",
            "show(0, 0)", "show(1, 1)", "clink(0, 1)", "says(0, 4) = 0", "says(1, 6) = 0", "says(1, 4) = 0");
        Boundary.test("SOBER his a", "guest(5, 0, 0)", "guest(5, 1, 9)", "show(0, 0)", "show(1, 1)", "says(0, 5) = 0",
            "says(1, 5) = 9");
    }

    private static void saysRefused() {
        for (String s : new String[] {"-1", "8", MIN, MAX}) {
            Boundary.test("-1 SHELF, KIND", Boundary.rich(), "says(" + s + ", 0) ! -1");
        }
        for (String kind : new String[] {"-1", "7", "31", "32", MIN, MAX}) {
            Boundary.test("-1 SHELF, KIND", Boundary.rich(), "says(2, " + kind + ") ! -1");
        }
        Boundary.test("-1 SHELF, KIND", Boundary.rich(), "says(8, 7) ! -1");
        Boundary.test("or the other way about", Boundary.rich(), "says(0, 0) ! -2");
        Boundary.test("or the other way about", Boundary.rich(), "says(6, 0) ! -2");
        Boundary.test("-3 NOTHING: a SHELF that holds NOTHING", Boundary.rich(), "says(4, 0) ! -3");
        Boundary.test("-3 NOTHING: a SHELF that holds NOTHING", Boundary.rich(), "says(7, 6) ! -3");
        String order = "the first that fits, in this order";
        Boundary.test(order, Boundary.rich(), "says(0, 7) ! -1 ahead of -2");
        Boundary.test(order, Boundary.rich(), "says(4, -1) ! -1 ahead of -3");
        Boundary.neverBoth(-2, -3, "a SHELF with a ROW or a GUEST holds something");
    }
}
