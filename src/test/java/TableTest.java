/** Promises 9 to 16: SEATS, GUESTS, PAIRS, EYES, and TABLES read from texts. */
public final class TableTest {
    public static void main(String[] args) {
        seats();
        guest();
        guestOf();
        bar();
        had();
        eyes();
        tableTold();
        tableOver();
        tableRefused();
        faultsOfWords();
        faultsOfNumbers();
        faultsOverGuests();
        faultsOfWordsThatCantBeTold();
        faultsTellNothing();
        faultOfLatest();
        sortsOfTexts();
        Due.end("TableTest");
    }

    /** Promise 9. */
    private static void seats() {
        NoArmsCrossed x = new NoArmsCrossed();
        Due.fine(x, "seats(3)", () -> x.seats(3), 8);
        Due.fine(x, "seats(12)", () -> x.seats(12), 3);
        Due.refused(x, "seats(2)", () -> x.seats(2), -6);
        Due.refused(x, "seats(13)", () -> x.seats(13), -6);
        Due.is("SEATS", x.status(1), 12);
        x.guest(0, 11, 0);
        Due.refused(x, "seats(12) with a GUEST", () -> x.seats(12), -6);
        x.leaves();
        Due.fine(x, "seats(4)", () -> x.seats(4), 12);
    }

    /** Promise 10. */
    private static void guest() {
        NoArmsCrossed x = new NoArmsCrossed();
        Due.fine(x, "guest(6, 7, 9)", () -> x.guest(6, 7, 9), 0);
        Due.refused(x, "guest(7, 7, 10)", () -> x.guest(7, 7, 10), -1);
        Due.refused(x, "guest(-1, 0, 0)", () -> x.guest(-1, 0, 0), -1);
        Due.refused(x, "guest(0, 8, 0)", () -> x.guest(0, 8, 0), -6);
        Due.refused(x, "guest(0, -1, 0)", () -> x.guest(0, -1, 0), -6);
        Due.refused(x, "guest in a taken SEAT", () -> x.guest(0, 7, 0), -6);
        Due.refused(x, "guest(0, 0, 10)", () -> x.guest(0, 0, 10), -6);
        Due.refused(x, "guest(0, 0, -1)", () -> x.guest(0, 0, -1), -6);
        Due.fine(x, "guest(0, 0, 0)", () -> x.guest(0, 0, 0), 1);
        Due.is("KIND", x.guestOf(0, 0), 6);
        NoArmsCrossed full = Due.plain(12, 10);
        Due.refused(full, "an eleventh GUEST", () -> full.guest(0, 10, 0), -7);
        Due.refused(full, "an eleventh in a taken SEAT", () -> full.guest(0, 0, 0), -6);
        Due.is("GUESTS", full.status(0), 10);
    }

    /** Promise 11. */
    private static void guestOf() {
        NoArmsCrossed x = new NoArmsCrossed();
        x.guest(2, 5, 7);
        x.guest(0, 1, 0);
        x.guest(5, 2, 3);
        x.guest(0, 3, 0);
        x.guest(4, 4, 0);
        x.had(0, 1, true);
        x.bar(0, 3, true);
        int[] due = {2, 5, 7, 0b10, 0b1000, 0b10000};
        for (int what = 0; what < 6; what++) {
            int w = what;
            Due.fine(x, "guestOf(0, " + what + ")", () -> x.guestOf(0, w), due[what]);
        }
        Due.is("who HAD it with him, of the other", x.guestOf(1, 3), 1);
        Due.is("who is BARRED with him, of the other", x.guestOf(3, 4), 1);
        Due.is("LACKS of the SOBER one", x.guestOf(2, 5), 0);
        Due.is("LACKS", x.guestOf(4, 5), 0b1011);
        Due.refused(x, "guestOf(5, 0)", () -> x.guestOf(5, 0), -5);
        Due.refused(x, "guestOf(-1, 0)", () -> x.guestOf(-1, 0), -5);
        Due.refused(x, "guestOf(0, 6)", () -> x.guestOf(0, 6), -5);
        Due.refused(x, "guestOf(0, -1)", () -> x.guestOf(0, -1), -5);
    }

    /** Promise 12. */
    private static void bar() {
        NoArmsCrossed x = Due.plain(8, 3);
        Due.fine(x, "bar(2, 0, false)", () -> x.bar(2, 0, false), 0);
        Due.fine(x, "bar(2, 0, true)", () -> x.bar(2, 0, true), 1);
        Due.fine(x, "bar(0, 2, true)", () -> x.bar(0, 2, true), 0);
        Due.is("may(0, 2)", x.may(0, 2), 0);
        Due.is("may(0, 1)", x.may(0, 1), 1);
        Due.fine(x, "bar(0, 2, false)", () -> x.bar(0, 2, false), 1);
        Due.is("may(2, 0)", x.may(2, 0), 1);
        Due.is("had by bar", x.status(2), 0);
        Due.pairRefused(x, "bar", (p, q) -> x.bar(p, q, true));
    }

    /** Promise 13. */
    private static void had() {
        NoArmsCrossed x = Due.plain(8, 3);
        Due.fine(x, "had(2, 1, false)", () -> x.had(2, 1, false), 0);
        Due.fine(x, "had(2, 1, true)", () -> x.had(2, 1, true), 1);
        Due.fine(x, "had(1, 2, true)", () -> x.had(1, 2, true), 0);
        Due.is("PAIRS that have HAD it", x.status(2), 1);
        Due.is("CLINKS", x.status(3), 0);
        Due.is("WANTED", x.wanted(-1), 2);
        Due.is("may(1, 2)", x.may(1, 2), 1);
        x.bar(0, 1, true);
        Due.fine(x, "had of a BARRED PAIR", () -> x.had(0, 1, true), 1);
        Due.is("PAIRS that have HAD it", x.status(2), 2);
        Due.fine(x, "had(1, 2, false)", () -> x.had(1, 2, false), 1);
        Due.is("PAIRS that have HAD it", x.status(2), 1);
        Due.pairRefused(x, "had", (p, q) -> x.had(p, q, true));
    }

    /** Promise 14. */
    private static void eyes() {
        NoArmsCrossed x = Due.plain(8, 2);
        Due.fine(x, "eyes(0)", () -> x.eyes(0), 0);
        Due.fine(x, "eyes(1)", () -> x.eyes(1), 0);
        Due.refused(x, "eyes(2)", () -> x.eyes(2), -6);
        Due.refused(x, "eyes(-1)", () -> x.eyes(-1), -6);
        Due.is("EYES", x.status(5), 1);
        Due.is("takes with EYES", x.takes(0, 1), 2);
        Due.fine(x, "eyes(0)", () -> x.eyes(0), 1);
    }

    /** Promise 15: each ITEM does what its call would. */
    private static void tableTold() {
        NoArmsCrossed x = new NoArmsCrossed();
        Due.text(x, 0, 0, "seats 12;guest 6 11 9;guest 00 05 01;guest 1 2 3;bar 0 2;had 1 0;eyes 01;move 1 04");
        Due.fine(x, "table", () -> x.table(0), 8);
        Due.is("fault", x.fault(), -1);
        Due.is("GUESTS", x.status(0), 3);
        Due.is("SEATS", x.status(1), 12);
        Due.is("EYES", x.status(5), 1);
        int[][] due = {{6, 11, 9, 0b10, 0b100}, {0, 4, 1, 0b1, 0}, {1, 2, 3, 0, 0b1}};
        for (int g = 0; g < 3; g++) {
            for (int what = 0; what < 5; what++) {
                Due.is("guestOf(" + g + ", " + what + ")", x.guestOf(g, what), due[g][what]);
            }
        }
        Due.is("CLINKS by a text", x.status(3), 0);
        Due.is("what the SHELF holds", x.holds(0), 100);
    }

    /** A text is told over what there is. */
    private static void tableOver() {
        NoArmsCrossed x = Due.plain(4, 2);
        x.bar(0, 1, true);
        x.clink(0, 1);
        x.seed(9);
        Due.text(x, 1, 1, "had 0 1;guest 0 2 0;had 00 01;bar 0 2;move 0 3;guest 0 0 0");
        Due.fine(x, "table", () -> x.table(1), 6);
        Due.is("GUESTS", x.status(0), 4);
        Due.is("SEED", x.status(6), 9);
        Due.is("SEAT of 0", x.guestOf(0, 1), 3);
        Due.is("SEAT of 3", x.guestOf(3, 1), 0);
        Due.is("BARRED with 0", x.guestOf(0, 4), 0b110);
        Due.is("HAD with 0", x.guestOf(0, 3), 0b10);
    }

    private static void tableRefused() {
        NoArmsCrossed x = Due.plain(8, 1);
        x.show(1, 0);
        Due.refused(x, "table(8)", () -> x.table(8), -1);
        Due.refused(x, "table(-1)", () -> x.table(-1), -1);
        Due.refused(x, "table of a GUEST", () -> x.table(1), -2);
        Due.refused(x, "table of NOTHING", () -> x.table(2), -3);
        Due.is("fault", x.fault(), -1);
        x.row(3, 0, 0);
        Due.refused(x, "table of no letters", () -> x.table(3), -6);
        Due.is("fault", x.fault(), 0);
    }

    /** Promise 16: on a new object. */
    private static void faultAt(String text, int place) {
        NoArmsCrossed x = new NoArmsCrossed();
        faultAt(x, text, place);
        Due.is("GUESTS after " + text, x.status(0), 0);
        Due.is("SEATS after " + text, x.status(1), 8);
        Due.is("EYES after " + text, x.status(5), 0);
    }

    private static void faultAt(NoArmsCrossed x, String text, int place) {
        Due.text(x, 0, 0, text);
        Due.refused(x, "table " + text, () -> x.table(0), -6);
        Due.is("fault " + text, x.fault(), place);
    }

    private static void faultsOfWords() {
        faultAt("", 0);
        faultAt("x", 0);
        faultAt(" eyes 1", 0);
        faultAt(";eyes 1", 0);
        faultAt("Eyes 1", 0);
        faultAt("eye", 3);
        faultAt("eyed 1", 3);
        faultAt("eyess 1", 4);
        faultAt("eyes", 4);
        faultAt("eyes1", 4);
        faultAt("eyes;", 4);
        faultAt("guess 0 0 0", 4);
        faultAt("seats 5;", 8);
        faultAt("seats 5;;", 8);
        faultAt("seats 5; eyes 1", 8);
        faultAt("seats 5 ;eyes 1", 7);
        faultAt("seats 5 ", 7);
        faultAt("seats 5;eyes 1;mov", 18);
    }

    private static void faultsOfNumbers() {
        faultAt("eyes ", 5);
        faultAt("eyes  1", 5);
        faultAt("eyes x", 5);
        faultAt("eyes -1", 5);
        faultAt("eyes 2", 5);
        faultAt("eyes 10", 5);
        faultAt("eyes 011", 7);
        faultAt("eyes 1x", 6);
        faultAt("seats 2", 6);
        faultAt("seats 1", 6);
        faultAt("seats 1x", 6);
        faultAt("seats 13", 6);
        faultAt("seats 123", 8);
        faultAt("seats 99x", 6);
        faultAt("seats 012", 6);
        faultAt("guest 012 0 0", 8);
        faultAt("guest 7 0 0", 6);
        faultAt("guest 0 8 0", 8);
        faultAt("guest 0 0 10", 10);
        faultAt("guest 0 0 ", 10);
        faultAt("guest 0 0", 9);
        faultAt("guest 0 0 0 0", 11);
        faultAt("guest 99 99 99", 6);
        faultAt("seats 3;guest 0 3 0", 16);
        faultAt("bar 0 1", 4);
        faultAt("had 0 0", 4);
        faultAt("move 0 0", 5);
        faultAt("seats 12;guest 0 31 0", 17);
        faultAt("seats 12;guest 0 32 0", 17);
        faultAt("seats 12;guest 32 3 0", 15);
    }

    private static void faultsOverGuests() {
        faultAt("guest 0 0 0;seats 5", 12);
        faultAt("guest 0 3 0;guest 0 3 0", 20);
        faultAt("guest 0 3 0;bar 0 0", 18);
        faultAt("guest 0 3 0;bar 0 1", 18);
        faultAt("guest 0 3 0;bar 1 0", 16);
        faultAt("guest 0 3 0;had 00 00", 19);
        faultAt("guest 0 3 0;move 0 3", 19);
        faultAt("guest 0 3 0;move 0 8", 19);
        faultAt("guest 0 3 0;guest 0 4 0;move 0 04", 31);
        faultAt("guest 0 3 0;had 0", 17);
        NoArmsCrossed x = Due.plain(12, 10);
        faultAt(x, "guest 0 10 0", 0);
        faultAt(x, "eyes 1;guest 0 10 0", 7);
        faultAt(x, "seats 12", 0);
        faultAt(x, "bar 9 10", 6);
        faultAt(x, "bar 10 9", 4);
        Due.is("EYES", x.status(5), 0);
        Due.text(x, 0, 0, "bar 9 0;move 09 10;move 8 9");
        Due.fine(x, "table", () -> x.table(0), 3);
        Due.is("SEAT", x.guestOf(8, 1), 9);
        NoArmsCrossed y = Due.plain(3, 3);
        faultAt(y, "guest 0 2 0", 8);
    }

    /** Its word is at FAULT, but only where the whole word is there. */
    private static void faultsOfWordsThatCantBeTold() {
        faultsOfWordThatCantBeTold(8, 1, "seats", "5");
        faultsOfWordThatCantBeTold(12, 10, "seats", "12");
        faultsOfWordThatCantBeTold(12, 10, "guest", "0 10 0");
        NoArmsCrossed nine = Due.plain(12, 9);
        faultAt(nine, "guest 0 9 0;g", 13);
        faultAt(nine, "guest 0 9 0;guess", 16);
        faultAt(nine, "guest 0 9 0;guest", 12);
        faultAt(nine, "guest 0 9 0;guest 0 10 0", 12);
        faultAt("guest 0 0 0;s", 13);
        faultAt("guest 0 0 0;sat", 13);
        faultAt("guest 0 0 0;seats", 12);
        faultAt("guest 0 0 0;seats x", 12);
    }

    private static void faultsOfWordThatCantBeTold(int seats, int guests, String word, String numbers) {
        for (String ahead : new String[] {"", "eyes 1;"}) {
            int at = ahead.length();
            for (int letters = 1; letters < word.length(); letters++) {
                NoArmsCrossed x = Due.plain(seats, guests);
                String part = ahead + word.substring(0, letters);
                faultAt(x, part, at + letters);
                faultAt(x, part + "x", at + letters);
                faultAt(x, part + " " + numbers, at + letters);
                Due.is("EYES", x.status(5), 0);
            }
            for (String behind : new String[] {"", "x", " ", " x", " " + numbers, " " + numbers + ";eyes 1"}) {
                NoArmsCrossed x = Due.plain(seats, guests);
                faultAt(x, ahead + word + behind, at);
                Due.is("EYES", x.status(5), 0);
            }
        }
    }

    private static void faultsTellNothing() {
        NoArmsCrossed x = Due.plain(8, 2);
        faultAt(x, "bar 0 1;had 0 1;eyes 1;move 0 7;guest 0 5 0;eyes 2", 49);
        Due.is("BARRED", x.guestOf(0, 4), 0);
        Due.is("HAD", x.status(2), 0);
        Due.is("EYES", x.status(5), 0);
        Due.is("SEAT", x.guestOf(0, 1), 0);
        Due.is("GUESTS", x.status(0), 2);
    }

    private static void faultOfLatest() {
        NoArmsCrossed x = new NoArmsCrossed();
        faultAt(x, "eyes 2", 5);
        Due.refused(x, "table(9)", () -> x.table(9), -1);
        Due.refused(x, "table of NOTHING", () -> x.table(5), -3);
        Due.is("fault, none later came to a ROW", x.fault(), 5);
        x.image();
        x.restore();
        Due.is("fault is not in THE IMAGE", x.fault(), 5);
        Due.text(x, 0, 0, "eyes 1");
        Due.fine(x, "table", () -> x.table(0), 1);
        Due.fine(x, "fault", () -> x.fault(), -1);
    }

    private static void sortsOfTexts() {
        NoArmsCrossed x = new NoArmsCrossed();
        Due.text(x, 0, 3, "eyes 1");
        x.set(0, 0, 0x500000000L + 'e');
        Due.fine(x, "longs count by their lowest 32 bits", () -> x.table(0), 1);
        Due.text(x, 0, 2, "eyes 0");
        x.set(0, 1, 256 + 'y');
        Due.refused(x, "no letter", () -> x.table(0), -6);
        Due.is("fault", x.fault(), 1);
        Due.text(x, 0, 1, "eyes 0");
        x.set(0, 5, 256 + '0');
        Due.refused(x, "no digit", () -> x.table(0), -6);
        Due.is("fault", x.fault(), 5);
    }
}
