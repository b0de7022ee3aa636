/** Boundary cases of promises 9 to 16: SEATS, GUESTS, PAIRS, EYES, TABLES from texts and their FAULTS. */
public final class TableBoundaryTest {
    private static final String MIN = "-2147483648";
    private static final String MAX = "2147483647";
    private static final String ORDER = "the first that fits, in this order";
    private static final String GOES_ON = "the first place at which an element can't stand as such texts go on";
    private static final String TOO_EARLY = "(the number of elements, if it ends too early)";
    private static final String FIRST_DIGIT = "of a NUMBER that may not be the place of its first digit";

    public static void main(String[] args) {
        seats();
        guest();
        guestRefused();
        guestOf();
        pairCall(12, "bar", 4);
        pairCall(13, "had", 3);
        had();
        eyes();
        table();
        tableTellsAll();
        tableOrNothing();
        tableRefused();
        fault();
        faultsOfWords();
        faultsOfBlanks();
        faultsOfNumbers();
        faultsTooEarly();
        faultsOfWhatCantBeTold();
        faultsOfElements();
        Boundary.end("TableBoundaryTest", 9, 16);
    }

    private static void seats() {
        Boundary.promise(9);
        String range = "SEATS are 0 to n less 1 (n 3 to 12; 8 at first)";
        Boundary.test(range, "seats(3) = 8", "status(1) = 3", "guest(0, 2, 0) = 0", "guest(0, 3, 0) ! -6");
        Boundary.test(range, "seats(12) = 8", "status(1) = 12", "guest(0, 11, 0) = 0", "guest(0, 12, 0) ! -6");
        Boundary.test("SEATS become n: what they were.", "seats(12) = 8", "seats(3) = 12", "seats(3) = 3 same");
        for (String n : new String[] {"2", "13", "0", "-1", MIN, MAX}) {
            Boundary.test("-6 WRONG: a number that may not be", "seats(5)", "seats(" + n + ") ! -6", "status(1) = 5");
        }
        Boundary.test("-6 also if there are GUESTS", "guest(0, 0, 0)", "seats(8) ! -6", "seats(12) ! -6",
            "seats(3) ! -6");
        Boundary.test("-6 also if there are GUESTS", Boundary.rich(), "seats(12) ! -6");
        Boundary.test("-6 also if there are GUESTS", "guest(0, 0, 0)", "seats(2) ! -6", "seats(13) ! -6");
        Boundary.test("-6 also if there are GUESTS", "guest(0, 7, 0)", "leaves()", "seats(3) = 8");
    }

    private static void guest() {
        Boundary.promise(10);
        Boundary.test("GUESTS have numbers, from 0 on, 10 at most", Boundary.plain(12, 0), """
            guest(0, 0, 0) = 0
            guest(0, 1, 0) = 1
            guest(0, 2, 0) = 2
            guest(0, 3, 0) = 3
            guest(0, 4, 0) = 4
            guest(0, 5, 0) = 5
            guest(0, 6, 0) = 6
            guest(0, 7, 0) = 7
            guest(0, 8, 0) = 8
            guest(0, 9, 0) = 9
            status(0) = 10
            guest(0, 10, 0) ! -7
            guest(0, 11, 0) ! -7
            """);
        Boundary.test("GUESTS have numbers, from 0 on, 10 at most", Boundary.plain(12, 10), "leaves()",
            "guest(0, 11, 0) = 9", "guest(0, 10, 0) ! -7");
        Boundary.test("each of a KIND: 0 GUEST", "guest(0, 0, 0) = 0", "guestOf(0, 0) = 0");
        Boundary.test("6 HOST, under LEFTY", "guest(6, 0, 0) = 0", "guestOf(0, 0) = 6");
        Boundary.test("a (0 to 9), in a SEAT, none two in one", "guest(1, 0, 0) = 0", "guest(1, 7, 9) = 1",
            "guestOf(0, 2) = 0", "guestOf(1, 2) = 9", "guestOf(0, 1) = 0", "guestOf(1, 1) = 7");
        Boundary.test("SEATS are 0 to n less 1", "seats(3)", "guest(0, 2, 0) = 0", "guest(0, 0, 0) = 1",
            "guest(0, 1, 0) = 2", "status(0) = 3");
        Boundary.test("a (0 to 9), in a SEAT, none two in one", "guest(0, 4, 0) = 0", "guest(0, 4, 0) ! -6",
            "leaves()", "guest(0, 4, 0) = 0");
        Boundary.test("a (0 to 9), in a SEAT, none two in one", "guest(0, 4, 0)", "guest(0, 6, 0)", "change(0, 1)",
            "guest(0, 4, 0) ! -6", "guest(0, 6, 0) ! -6", "guest(0, 5, 0) = 2");
    }

    private static void guestRefused() {
        for (String kind : new String[] {"-1", "7", "31", "32", MIN, MAX}) {
            Boundary.test("-1 KIND", Boundary.rich(), "guest(" + kind + ", 3, 0) ! -1");
        }
        for (String seat : new String[] {"-1", "11", "12", "31", "32", "35", "-29", MIN, MAX}) {
            Boundary.test("-6 WRONG: a number that may not be", Boundary.rich(), "guest(0, " + seat + ", 0) ! -6");
        }
        for (String a : new String[] {"-1", "10", MIN, MAX}) {
            Boundary.test("a (0 to 9)", Boundary.rich(), "guest(0, 3, " + a + ") ! -6");
        }
        for (String seat : new String[] {"0", "1", "10", "8"}) {
            Boundary.test("-6 also a SEAT that's taken", Boundary.rich(), "guest(0, " + seat + ", 0) ! -6");
        }
        Boundary.test("-6 also a SEAT that's taken", Boundary.plain(3, 3), "guest(0, 0, 0) ! -6",
            "guest(0, 2, 0) ! -6", "guest(0, 3, 0) ! -6");
        Boundary.test("-6 also a SEAT that's taken", Boundary.rich(), "guest(0, 0, 10) ! -6");
        Boundary.test("-7 ROOM: more than may be", Boundary.plain(11, 10), "guest(6, 10, 9) ! -7");
        Boundary.test(ORDER, Boundary.rich(), "guest(7, 11, 0) ! -1 ahead of -6");
        Boundary.test(ORDER, Boundary.rich(), "guest(-1, 0, 0) ! -1 ahead of -6");
        Boundary.test(ORDER, Boundary.rich(), "guest(7, 3, 10) ! -1 ahead of -6");
        Boundary.test(ORDER, Boundary.plain(12, 10), "guest(7, 10, 0) ! -1 ahead of -7");
        Boundary.test(ORDER, Boundary.plain(12, 10), "guest(0, 12, 0) ! -6 ahead of -7");
        Boundary.test(ORDER, Boundary.plain(12, 10), "guest(0, 9, 0) ! -6 ahead of -7");
        Boundary.test(ORDER, Boundary.plain(12, 10), "guest(0, 10, 10) ! -6 ahead of -7");
        Boundary.test(ORDER, Boundary.plain(10, 10), "guest(0, 0, 0) ! -6 ahead of -7");
        Boundary.test(ORDER, Boundary.plain(12, 10), "guest(7, 12, 10) ! -1");
    }

    private static void guestOf() {
        Boundary.promise(11);
        Boundary.test("Of a GUEST: 0 KIND, 1 SEAT, 2 a", "seats(12)", "guest(0, 0, 0)", "guest(6, 11, 9)", """
            guestOf(0, 0) = 0
            guestOf(0, 1) = 0
            guestOf(0, 2) = 0
            guestOf(1, 0) = 6
            guestOf(1, 1) = 11
            guestOf(1, 2) = 9
            """);
        String had = "";
        String bar = "";
        for (int g = 1; g < 10; g++) {
            had += "had(0, " + g + ", true)\n";
            bar += "bar(9, " + (g - 1) + ", true)\n";
        }
        Boundary.test("3 with whom he has HAD it (bits)", Boundary.plain(12, 10), had, """
            guestOf(0, 3) = 1022
            guestOf(1, 3) = 1
            guestOf(9, 3) = 1
            guestOf(0, 4) = 0
            guestOf(0, 5) = 0
            guestOf(9, 5) = 510
            """);
        Boundary.test("4 with whom he is BARRED (bits)", Boundary.plain(12, 10), bar, """
            guestOf(9, 4) = 511
            guestOf(0, 4) = 512
            guestOf(8, 4) = 512
            guestOf(9, 3) = 0
            guestOf(9, 5) = 0
            guestOf(0, 5) = 510
            """);
        Boundary.test("LACKS: GUESTS (bits) with whom one is WANTED", Boundary.plain(12, 10), "guestOf(0, 5) = 1022",
            "guestOf(9, 5) = 511", "guestOf(4, 5) = 1007");
        Boundary.test("LACKS: GUESTS (bits) with whom one is WANTED", "guest(5, 0, 0)", "guest(0, 1, 0)",
            "guestOf(0, 5) = 0", "guestOf(1, 5) = 0");
        Boundary.test("LACKS: GUESTS (bits) with whom one is WANTED", Boundary.plain(3, 1), "guestOf(0, 5) = 0");
        for (String g : new String[] {"-1", "7", "10", MIN, MAX}) {
            Boundary.test("-5: no such one, another what", Boundary.rich(), "guestOf(" + g + ", 0) ! -5");
        }
        for (String what : new String[] {"-1", "6", MIN, MAX}) {
            Boundary.test("-5: no such one, another what", Boundary.rich(), "guestOf(0, " + what + ") ! -5");
        }
        Boundary.test("-5: no such one, another what", Boundary.rich(), "guestOf(7, 6) ! -5");
        Boundary.test("-5: no such one, another what", Boundary.plain(12, 10), "guestOf(9, 0) = 0",
            "guestOf(10, 0) ! -5");
    }

    /** bar and had: the same but for what is marked. */
    private static void pairCall(int promise, String call, int bits) {
        Boundary.promise(promise);
        String ten = Boundary.plain(12, 10);
        Boundary.test("or not", ten, call + "(0, 9, false) = 0 same", call + "(9, 8, false) = 0 same");
        Boundary.test("1; 0 if it was so", ten, call + "(0, 9, true) = 1", "guestOf(0, " + bits + ") = 512",
            "guestOf(9, " + bits + ") = 1", call + "(0, 9, true) = 0 same", call + "(9, 0, true) = 0 same");
        Boundary.test("1; 0 if it was so", ten, call + "(9, 8, true) = 1", call + "(8, 9, false) = 1",
            "guestOf(8, " + bits + ") = 0", "guestOf(9, " + bits + ") = 0", call + "(9, 8, false) = 0 same");
        Boundary.test("1; 0 if it was so", ten, call + "(0, 1, true) = 1", call + "(0, 2, true) = 1",
            call + "(1, 0, false) = 1", "guestOf(0, " + bits + ") = 4", "guestOf(1, " + bits + ") = 0");
        for (String g : new String[] {"-1", "7", "10", "32", MIN, MAX}) {
            for (String is : new String[] {"true", "false"}) {
                Boundary.test("-1 NOBODY: no such SHELF, GUEST", Boundary.rich(),
                    call + "(" + g + ", 0, " + is + ") ! -1", call + "(0, " + g + ", " + is + ") ! -1");
            }
        }
        for (String g : new String[] {"0", "6"}) {
            Boundary.test("-6 the same", Boundary.rich(), call + "(" + g + ", " + g + ", true) ! -6",
                call + "(" + g + ", " + g + ", false) ! -6");
        }
        Boundary.test(ORDER, Boundary.rich(), call + "(7, 7, true) ! -1 ahead of -6");
        Boundary.test(ORDER, Boundary.rich(), call + "(-1, -1, false) ! -1 ahead of -6");
    }

    private static void had() {
        Boundary.test("A PAIR has HAD it, or not, as told", Boundary.plain(8, 2), "had(0, 1, true) = 1",
            "status(2) = 1", "status(3) = 0", "status(4) = 0", "wanted(-1) = 0", "may(0, 1) = 1");
        Boundary.test("A PAIR has HAD it, or not, as told", "guest(5, 0, 0)", "guest(5, 1, 0)", "had(0, 1, true) = 1",
            "status(2) = 1", "bar(0, 1, true) = 1", "had(0, 1, false) = 1", "status(2) = 0");
        Boundary.test("A PAIR has HAD it, or not, as told", Boundary.plain(8, 2), "clink(0, 1)",
            "had(0, 1, false) = 1", "status(2) = 0", "status(3) = 1", "status(4) = 1", "wanted(-1) = 1");
    }

    private static void eyes() {
        Boundary.promise(14);
        Boundary.test("EYES become v: what they were", "eyes(0) = 0 same", "eyes(1) = 0", "eyes(1) = 1 same",
            "eyes(0) = 1", "status(5) = 0");
        for (String v : new String[] {"-1", "2", MIN, MAX}) {
            Boundary.test("EYES (0 or 1; 0 at first)", "eyes(" + v + ") ! -6", "eyes(1)", "eyes(" + v + ") ! -6",
                "status(5) = 1");
        }
    }

    private static void table() {
        Boundary.promise(15);
        String items = "ITEM, then any number of times ; and ITEM";
        Boundary.test(items, "text(0, 0, eyes 1)", "table(0) = 1", "fault() = -1", "status(5) = 1");
        Boundary.test(items, "text(0, 0, eyes 1;eyes 0)", "table(0) = 2", "status(5) = 0");
        // 23 ITEMS in 160 elements: no more can be
        Boundary.test(items, "text(0, 0, " + "eyes 0;".repeat(22) + "eyes 1)", "holds(0) = 100",
            "element(0, 159) = 49", "table(0) = 23", "status(5) = 1");
        for (String n : new String[] {"3", "03", "12"}) {
            Boundary.test("seats N (only if there are no GUESTS)", "text(0, 0, seats " + n + ")", "table(0) = 1",
                "status(1) = " + Integer.parseInt(n), "status(0) = 0");
        }
        Boundary.test("guest K S A (KIND, SEAT, a)", "text(0, 0, guest 0 0 0;guest 6 7 9)", "table(0) = 2", """
            guestOf(0, 0) = 0
            guestOf(0, 1) = 0
            guestOf(0, 2) = 0
            guestOf(1, 0) = 6
            guestOf(1, 1) = 7
            guestOf(1, 2) = 9
            """);
        Boundary.test("10 at most", Boundary.plain(12, 9), "text(0, 0, guest 0 11 0)", "table(0) = 1", "status(0) = 10");
        Boundary.test("10 at most", "text(0, 0, seats 12;guest 0 0 0;guest 0 1 0;guest 0 2 0;guest 0 3 0;guest 0 4 0;"
            + "guest 0 5 0;guest 0 6 0;guest 0 7 0;guest 0 8 0;guest 0 11 0)", "table(0) = 11", "status(0) = 10",
            "guestOf(9, 1) = 11");
        Boundary.test("bar P Q", Boundary.plain(12, 10), "text(0, 0, bar 0 9;bar 9 8;bar 0 9)", "table(0) = 3",
            "guestOf(0, 4) = 512", "guestOf(9, 4) = 257", "guestOf(8, 4) = 512");
        Boundary.test("had P Q", Boundary.plain(12, 10), "text(0, 0, had 0 9;had 9 8;had 0 9)", "table(0) = 3",
            "guestOf(0, 3) = 512", "guestOf(9, 3) = 257", "status(2) = 2", "status(3) = 0", "status(4) = 0");
        for (String v : new String[] {"0", "1", "00", "01"}) {
            Boundary.test("eyes N", "text(0, 0, eyes " + v + ")", "table(0) = 1", "status(5) = " + v.charAt(v.length() - 1));
        }
        Boundary.test("move P S (to a free SEAT)", "seats(12)", "guest(0, 5, 0)", "text(0, 0, move 0 0)",
            "table(0) = 1", "guestOf(0, 1) = 0", "text(0, 0, move 0 11)", "table(0) = 1", "guestOf(0, 1) = 11");
        Boundary.test("move P S (to a free SEAT)", Boundary.plain(12, 10), "text(0, 0, move 9 10;move 0 9;move 1 0)",
            "table(0) = 3", "guestOf(9, 1) = 10", "guestOf(0, 1) = 9", "guestOf(1, 1) = 0");
        Boundary.test("Numbers of a text may begin with 0.", "text(0, 0, seats 09;guest 06 08 09;guest 00 00 00)",
            "table(0) = 3", "status(1) = 9", "guestOf(0, 0) = 6", "guestOf(0, 1) = 8", "guestOf(0, 2) = 9",
            "guestOf(1, 1) = 0");
        Boundary.test("Numbers of a text may begin with 0.", Boundary.plain(12, 10),
            "text(0, 0, bar 09 00;had 00 09;move 09 010)", "table(0) ! -6", "fault() = 28",
            "text(0, 0, bar 09 00;had 00 09;move 09 10)", "table(0) = 3", "guestOf(9, 4) = 1", "guestOf(9, 3) = 1",
            "guestOf(9, 1) = 10");
    }

    private static void tableTellsAll() {
        Boundary.test("All is told over what there is", Boundary.rich(), "text(4, 0, eyes 0;guest 0 3 9;had 0 7;bar 0 7)",
            "table(4) = 4", """
            status(0) = 8
            status(1) = 11
            status(3) = 1
            status(5) = 0
            status(6) = -77
            guestOf(0, 3) = 132
            guestOf(0, 4) = 144
            guestOf(7, 3) = 1
            guestOf(7, 1) = 3
            holds(2) = 0
            holds(4) = 100
            """);
        Boundary.test("All is told over what there is", "text(0, 0, seats 3;seats 12)", "table(0) = 2", "status(1) = 12",
            "table(0) = 2 same");
        Boundary.test("seats if there are GUESTS: its word", "text(0, 0, seats 3)", "guest(0, 0, 0)", "table(0) ! -6",
            "leaves()", "table(0) = 1", "status(1) = 3");
        Boundary.test("a SORT (0 bytes, 1 shorts, 2 ints, 3 longs)", "text(0, 1, eyes 1)", "table(0) = 1",
            "text(0, 2, eyes 0)", "table(0) = 1", "text(0, 3, eyes 1)", "table(0) = 1", "status(5) = 1");
        Boundary.test("Elements of a ROW of longs count by their lowest 32 bits wherever a ROW tells something.",
            "numbers(0, 3, 0x100000065 0x200000079 0x7FFFFFFF00000065 0x400000073 0x500000020 0x600000031)",
            "table(0) = 1", "status(5) = 1");
        Boundary.test("Elements of a ROW of longs count by their lowest 32 bits wherever a ROW tells something.",
            "numbers(0, 3, 101 121 101 115 32 0x80000031)", "table(0) ! -6", "fault() = 5");
    }

    /** Each ITEM would be told, then comes a FAULT. */
    private static void tableOrNothing() {
        String all = "seats 12;guest 0 0 0;guest 6 11 9;bar 0 1;had 0 1;eyes 1;move 0 5";
        Boundary.test("or nothing", "text(0, 0, " + all + ";)", "table(0) ! -6", "status(0) = 0", "status(1) = 8",
            "status(5) = 0", "text(0, 0, " + all + ")", "table(0) = 7", "status(0) = 2", "status(1) = 12");
        String over = "guest 0 3 0;guest 1 9 9;bar 0 1;had 0 3;eyes 0;move 0 5";
        for (String bad : new String[] {";", ";eyes 2", ";bar 0 0", ";move 0 5", ";seats 5", "x"}) {
            Boundary.test("or nothing", Boundary.rich(), "text(4, 0, " + over + bad + ")", "table(4) ! -6");
        }
        Boundary.test("or nothing", Boundary.rich(), "text(4, 0, " + over + ")", "table(4) = 6", "status(0) = 9");
    }

    private static void tableRefused() {
        for (String s : new String[] {"-1", "8", MIN, MAX}) {
            Boundary.test("-1 NOBODY: no such SHELF", Boundary.rich(), "table(" + s + ") ! -1");
        }
        Boundary.test("-2 OTHER: a SHELF that holds a GUEST where a ROW is wanted", Boundary.rich(), "table(2) ! -2");
        Boundary.test("-3 NOTHING: a SHELF that holds NOTHING", Boundary.rich(), "table(4) ! -3");
        Boundary.test("-6 a FAULT", Boundary.rich(), "table(0) ! -6", "table(1) ! -6", "table(5) ! -6", "table(6) ! -6");
        Boundary.neverBoth(-1, -2, "no such SHELF holds anything");
        Boundary.neverBoth(-1, -3, "no such SHELF holds anything");
        Boundary.neverBoth(-1, -6, "no such SHELF holds a text");
        Boundary.neverBoth(-2, -3, "a SHELF with a GUEST holds something");
        Boundary.neverBoth(-2, -6, "a SHELF with a GUEST holds no text");
        Boundary.neverBoth(-3, -6, "a SHELF with NOTHING holds no text");
    }

    private static void fault() {
        Boundary.promise(16);
        String none = "NONE: there was none, or none yet.";
        Boundary.test(none, "fault() = -1");
        Boundary.test(none, "text(0, 0, eyes 1)", "fault() = -1", "table(0) = 1", "fault() = -1");
        Boundary.test(none, "text(0, 0, eyes 2)", "table(0) ! -6", "fault() = 5", "text(0, 0, eyes 1)", "fault() = 5",
            "table(0) = 1", "fault() = -1");
        Boundary.test(none, "text(0, 0, eyes 2)", "table(0) ! -6", "text(0, 0, eyesx)", "table(0) ! -6", "fault() = 4");
        String latest = "The FAULT of the latest table() that came to a ROW";
        Boundary.test(latest, "table(8) ! -1", "fault() = -1", "table(0) ! -3", "fault() = -1");
        Boundary.test(latest, "guest(0, 0, 0)", "show(1, 0)", "text(0, 0, eyes 2)", "table(0) ! -6", """
            table(-1) ! -1
            fault() = 5
            table(8) ! -1
            fault() = 5
            table(1) ! -2
            fault() = 5
            table(2) ! -3
            fault() = 5
            """);
        Boundary.test(latest, "text(0, 0, eyes 2)", "table(0) ! -6", "eyes(1)", "row(0, 0, 0)", "show(0, -1)",
            "image()", "restore()", "fault() = 5");
        Boundary.test(latest, "image()", "text(0, 0, eyes 2)", "table(0) ! -6", "restore()", "fault() = 5");
    }

    private static void faultsOfWords() {
        String[] words = {"seats", "guest", "bar", "had", "eyes", "move"};
        String three = Boundary.plain(8, 3);
        for (String word : words) {
            String setup = word.equals("seats") ? "" : three;
            for (int cut = 0; cut <= word.length(); cut++) {
                String part = word.substring(0, cut);
                Boundary.fault(TOO_EARLY, setup, part + "^");
                Boundary.fault(TOO_EARLY, setup, "eyes 1;" + part + "^");
                for (String wrong : new String[] {"x", ";", "1"}) {
                    Boundary.fault(GOES_ON, setup, part + "^" + wrong);
                }
                if (cut < word.length()) {
                    Boundary.fault(GOES_ON, setup, part + "^ ");
                    Boundary.fault(GOES_ON, setup, part + "^" + Character.toUpperCase(word.charAt(cut)));
                }
            }
            Boundary.fault(GOES_ON, setup, "^ " + word + " 1");
            Boundary.fault(GOES_ON, setup, "^;" + word);
        }
        Boundary.fault("is read from a ROW of letters: ITEM", "", "^");
        Boundary.fault("is read from a ROW of letters: ITEM", Boundary.rich(), "^");
    }

    private static void faultsOfBlanks() {
        String blank = "One blank between words and NUMBERS (1 or 2 digits)";
        String three = Boundary.plain(8, 3);
        String[] one = {"eyes^0", "eyes ^ 0", "eyes ^;", "eyes ^x", "eyes ^-1", "eyes ^+1", "eyes^\t1", "eyes^,1",
            "bar^0 1", "bar 0^;1", "bar 0^,1", "bar 0 ^ 1", "bar ^ 0 1", "bar 0 ^;", "bar 0^-1", "had 0^x1", "had 0 ^x",
            "move 0 ^ 5", "move 0^;5", "guest ^ 0 5 0", "guest 0 ^ 5 0", "guest 0 5 ^ 0", "guest 0 5^;", "guest 0^;",
            "guest 0 5 ^;", "guest 0 5 ^x"};
        for (String text : one) {
            Boundary.fault(blank, three, text);
        }
        Boundary.fault(blank, "", "seats^5");
        Boundary.fault(blank, "", "seats ^ 5");
        String items = "ITEM, then any number of times ; and ITEM";
        String[] ends = {"eyes 0;^", "eyes 0;^;", "eyes 0;^;eyes 0", "eyes 0^ ", "eyes 0^ ;eyes 0", "eyes 0;^ eyes 0",
            "eyes 0^,eyes 0", "eyes 0^eyes 0", "eyes 0^x", "eyes 00^x", "^;eyes 0", "bar 0 1^ 2", "bar 0 1^ ",
            "guest 0 5 0^ 0", "move 0 5^ 6", "eyes 0;^x", "eyes 0;^1"};
        for (String text : ends) {
            Boundary.fault(items, three, text);
        }
        String digits = "NUMBERS (1 or 2 digits)";
        for (String text : new String[] {"eyes 01^1", "eyes 00^0", "eyes 00;^", "bar 00^0 1",
            "bar 00 01^1", "guest 00^0 5 0", "guest 01^2 5 0", "guest 0 05^0 0", "guest 0 05^3 0", "guest 0 5 09^0",
            "move 00^0 5", "move 0 05^5"}) {
            Boundary.fault(digits, three, text);
        }
        Boundary.fault(digits, "", "seats 12^0");
        Boundary.fault(digits, "", "seats 03^0");
    }

    private static void faultsOfNumbers() {
        for (String n : new String[] {"0", "1", "2", "00", "01", "02", "13", "19", "20", "30", "99", "012", "2x", "99;",
            "130"}) {
            Boundary.fault(FIRST_DIGIT, "", "seats ^" + n);
        }
        String three = Boundary.plain(8, 3);
        for (String k : new String[] {"7", "8", "9", "07", "10", "16", "32", "99", "70"}) {
            Boundary.fault(FIRST_DIGIT, three, "guest ^" + k + " 5 0");
        }
        for (String s : new String[] {"8", "9", "08", "10", "12", "31", "32", "35", "37", "64", "99"}) {
            Boundary.fault(FIRST_DIGIT, three, "guest 0 ^" + s + " 0");
        }
        for (String a : new String[] {"10", "11", "12", "13", "32", "41", "99"}) {
            Boundary.fault(FIRST_DIGIT, three, "guest 0 5 ^" + a);
        }
        for (String v : new String[] {"2", "9", "02", "10", "11", "32", "33", "99"}) {
            Boundary.fault(FIRST_DIGIT, three, "eyes ^" + v);
        }
        for (String word : new String[] {"bar", "had"}) {
            for (String p : new String[] {"3", "9", "03", "10", "32", "33", "99"}) {
                Boundary.fault(FIRST_DIGIT, three, word + " ^" + p + " 0");
                Boundary.fault(FIRST_DIGIT, three, word + " 0 ^" + p);
                Boundary.fault(FIRST_DIGIT, three, word + " ^" + p + " " + p);
            }
        }
        for (String p : new String[] {"3", "9", "03", "10", "32", "99"}) {
            Boundary.fault(FIRST_DIGIT, three, "move ^" + p + " 5");
        }
        for (String s : new String[] {"8", "08", "12", "32", "37", "99"}) {
            Boundary.fault(FIRST_DIGIT, three, "move 0 ^" + s);
        }
        Boundary.fault(FIRST_DIGIT, "", "bar ^0 1");
        Boundary.fault(FIRST_DIGIT, "", "had ^0 0");
        Boundary.fault(FIRST_DIGIT, "", "move ^0 0");
        Boundary.fault(FIRST_DIGIT, Boundary.plain(12, 10), "bar 9 ^10");
        Boundary.fault(FIRST_DIGIT, Boundary.plain(12, 10), "bar ^10 9");
        Boundary.fault(FIRST_DIGIT, "", "seats 3;guest 0 ^3 0");
        Boundary.fault(FIRST_DIGIT, "", "seats 12;guest 0 11 0;guest 0 ^12 0");
    }

    /** Each text that is a part of a longer one. */
    private static void faultsTooEarly() {
        String[] items = {"guest 0 5 7", "bar 0 1", "had 1 0", "eyes 1", "move 0 5"};
        String three = Boundary.plain(8, 3);
        for (String item : items) {
            for (int cut = 0; cut < item.length(); cut++) {
                Boundary.fault(TOO_EARLY, three, item.substring(0, cut) + "^");
                Boundary.fault(TOO_EARLY, three, "eyes 0;" + item.substring(0, cut) + "^");
            }
        }
        for (int cut = 0; cut < 7; cut++) {
            Boundary.fault(TOO_EARLY, "", "seats 5".substring(0, cut) + "^");
        }
        // 160 elements and not enough
        Boundary.fault(TOO_EARLY, "", "eyes 0;".repeat(21) + "eyes 01;" + "eyes ^");
        Boundary.fault(GOES_ON, "", "eyes 0;".repeat(22) + "eyes ^x");
        Boundary.fault(FIRST_DIGIT, "", "eyes 0;".repeat(22) + "eyes ^2");
        Boundary.fault(FIRST_DIGIT, "", "eyes 0;".repeat(21) + "eyes 00;eyes^2");
    }

    private static void faultsOfWhatCantBeTold() {
        String word = "seats if there are GUESTS: its word";
        String one = Boundary.plain(8, 1);
        for (String text : new String[] {"^seats 5", "^seats 8", "^seats 2", "^seats 99", "^seats", "^seats ", "^seats 5;eyes 1",
            "eyes 1;^seats 5", "eyes 1;^seats 5;x"}) {
            Boundary.fault(word, one, text);
            Boundary.fault(word, Boundary.plain(12, 10), text);
        }
        Boundary.fault(word, "", "guest 0 0 0;^seats 5");
        Boundary.fault(word, "", "seats 9;guest 0 0 0;eyes 1;^seats 9");
        Boundary.fault(word, "", "seats 5;seats 4;guest 0 ^4 0");
        Boundary.test(word, one, "leaves()", "text(0, 0, seats 5)", "table(0) = 1");
        String room = "what there is no room for";
        String ten = Boundary.plain(12, 10);
        for (String text : new String[] {"^guest 0 10 0", "^guest 9 99 99", "^guest 0 0 0", "^guest", "^guest ",
            "eyes 1;^guest 0 10 0", "^guest 0 10 0;eyes 1"}) {
            Boundary.fault(room, ten, text);
            Boundary.fault(room, Boundary.plain(10, 10), text);
        }
        Boundary.fault(room, Boundary.plain(12, 9), "guest 0 9 0;^guest 0 10 0");
        Boundary.fault(room, Boundary.plain(12, 8), "guest 0 8 0;guest 0 9 0;^guest 0 10 0");
        String taken = "a SEAT that's taken: S";
        String three = Boundary.plain(8, 3);
        for (String text : new String[] {"guest 0 ^0 0", "guest 0 ^2 0", "guest 0 ^00 0", "guest 0 ^02 99",
            "guest 0 3 0;guest 0 ^3 0", "guest 0 7 0;guest 0 ^7 0", "move 0 ^1", "move 0 ^02", "move 1 3;move 0 ^3",
            "move 1 3;guest 0 ^3 0"}) {
            Boundary.fault(taken, three, text);
        }
        Boundary.fault(taken, Boundary.plain(3, 3), "guest 0 ^2 0");
        Boundary.fault(taken, Boundary.plain(3, 3), "move 0 ^1");
        Boundary.test(taken, three, "text(0, 0, move 1 3;guest 0 1 0;move 0 7;move 2 0)", "table(0) = 4",
            "guestOf(3, 1) = 1", "guestOf(0, 1) = 7", "guestOf(2, 1) = 0");
        String himself = "A SEAT in which somebody sits is not free for a move, for himself neither.";
        Boundary.fault(himself, three, "move 0 ^0");
        Boundary.fault(himself, three, "move 2 ^02");
        Boundary.fault(himself, three, "move 0 7;move 0 ^7");
        Boundary.fault(himself, Boundary.plain(12, 10), "move 9 ^9");
        String same = "the same GUEST: Q";
        for (String text : new String[] {"bar 0 ^0", "had 0 ^0", "bar 2 ^2", "had 02 ^2", "bar 1 ^01", "bar 0 1;bar 0 ^0"}) {
            Boundary.fault(same, three, text);
        }
        Boundary.fault(same, Boundary.plain(12, 10), "had 9 ^9");
        Boundary.fault(same, Boundary.plain(8, 1), "had 0 ^0");
    }

    /** Elements that are no letters of such texts. */
    private static void faultsOfElements() {
        String[] ints = {"0", "-1", "128", "-155", "357", "65637", "-2147483648", "2147483647", "-2147483547"};
        for (String e : ints) {
            Boundary.test(GOES_ON, "numbers(0, 2, " + e + " 121 101 115 32 49)", "table(0) ! -6", "fault() = 0");
        }
        String[] digits = {"0", "47", "58", "305", "304", "-207", "65585", "-1"};
        for (String e : digits) {
            Boundary.test(GOES_ON, "numbers(0, 2, 101 121 101 115 32 " + e + ")", "table(0) ! -6", "fault() = 5");
            Boundary.test(GOES_ON, "numbers(0, 2, 101 121 101 115 32 48 " + e + ")", "table(0) ! -6", "fault() = 6");
        }
        for (String e : new String[] {"0", "31", "33", "288", "-224"}) {
            Boundary.test(GOES_ON, "numbers(0, 2, 101 121 101 115 " + e + " 49)", "table(0) ! -6", "fault() = 4");
        }
        for (String e : new String[] {"0", "58", "60", "315", "-197"}) {
            Boundary.test(GOES_ON, "numbers(0, 2, 101 121 101 115 32 49 " + e + " 101 121 101 115 32 49)",
                "table(0) ! -6", "fault() = 6");
        }
        Boundary.test("what is put in keeps its lowest bits", "numbers(0, 0, 357 377 -155 371 288 305)", "table(0) = 1",
            "status(5) = 1");
        Boundary.test("what is put in keeps its lowest bits", "numbers(0, 1, 65637 65657 65637 65651 65568 65585)",
            "table(0) = 1", "status(5) = 1");
        Boundary.test(GOES_ON, "numbers(0, 1, 357 121 101 115 32 49)", "table(0) ! -6", "fault() = 0");
        Boundary.test(TOO_EARLY, "row(0, 0, 160)", "table(0) ! -6", "fault() = 0");
    }
}
