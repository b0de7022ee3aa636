/** Promises 1 to 8: a new object, and what SHELVES hold. */
public final class ShelvesTest {
    public static void main(String[] args) {
        newObject();
        row();
        set();
        copy();
        copyRefused();
        element();
        show();
        holds();
        says();
        saysRefused();
        Due.end("ShelvesTest");
    }

    /** Promise 1. */
    private static void newObject() {
        NoArmsCrossed x = new NoArmsCrossed();
        Due.is("GUESTS of a new object", x.status(0), 0);
        Due.is("SEATS of a new object", x.status(1), 8);
        Due.is("SEED of a new object", x.status(6), 1);
        for (int what : new int[] {2, 3, 4, 5, 7, 11, 12, 13, 14, 15, 16, 17}) {
            Due.is("status(" + what + ") of a new object", x.status(what), 0);
        }
        for (int s = 0; s < 8; s++) {
            Due.is("holds(" + s + ") of a new object", x.holds(s), -1);
        }
        Due.is("fault of a new object", x.fault(), -1);
        Due.is("trace of a new object", x.trace(0), -1);
        Due.is("NONE", NoArmsCrossed.NONE, -1);
    }

    /** Promise 2. */
    private static void row() {
        NoArmsCrossed x = new NoArmsCrossed();
        Due.fine(x, "row(0, 0, 0)", () -> x.row(0, 0, 0), 1);
        Due.fine(x, "row(7, 3, 160)", () -> x.row(7, 3, 160), 1);
        Due.is("holds(0)", x.holds(0), 100);
        Due.is("holds(7)", x.holds(7), 103);
        Due.fine(x, "set(7, 159, 5)", () -> x.set(7, 159, 5), 1);
        x.set(7, 0, 6);
        Due.fine(x, "row(7, 3, 160) again", () -> x.row(7, 3, 160), 1);
        Due.is("element(7, 0) of a new ROW", x.element(7, 0), 0);
        Due.is("element(7, 159) of a new ROW", x.element(7, 159), 0);
        Due.refused(x, "row(-1, 9, -1)", () -> x.row(-1, 9, -1), -1);
        Due.refused(x, "row(8, 0, 1)", () -> x.row(8, 0, 1), -1);
        Due.refused(x, "row(0, 4, -1)", () -> x.row(0, 4, -1), -4);
        Due.refused(x, "row(0, 4, 161)", () -> x.row(0, 4, 161), -6);
        Due.refused(x, "row(0, -1, 1)", () -> x.row(0, -1, 1), -6);
        Due.refused(x, "row(0, 3, 161)", () -> x.row(0, 3, 161), -7);
        Due.is("holds(0) after refusals", x.holds(0), 100);
    }

    /** Promise 3. */
    private static void set() {
        NoArmsCrossed x = new NoArmsCrossed();
        long v = 0x0123_4567_89AB_CDEFL;
        long[] kept = {(byte) 0xEF, (short) 0xCDEF, 0x89ABCDEF, v};
        for (int sort = 0; sort < 4; sort++) {
            int s = sort;
            x.row(s, s, 3);
            Due.fine(x, "set(" + s + ", 2, v)", () -> x.set(s, 2, v), 1);
            Due.is("lowest bits of SORT " + s, x.element(s, 2), kept[s]);
            Due.is("the element ahead", x.element(s, 1), 0);
        }
        Due.fine(x, "set(0, 0, 200)", () -> x.set(0, 0, 200), 1);
        Due.is("200 as a byte", x.element(0, 0), -56);
        x.guest(0, 0, 0);
        x.show(5, 0);
        Due.refused(x, "set(8, 9, 0)", () -> x.set(8, 9, 0), -1);
        Due.refused(x, "set(-1, 0, 0)", () -> x.set(-1, 0, 0), -1);
        Due.refused(x, "set(5, 9, 0)", () -> x.set(5, 9, 0), -2);
        Due.refused(x, "set(6, 9, 0)", () -> x.set(6, 9, 0), -3);
        Due.refused(x, "set(0, 3, 0)", () -> x.set(0, 3, 0), -5);
        Due.refused(x, "set(0, -1, 0)", () -> x.set(0, -1, 0), -5);
    }

    /** Promise 4. */
    private static void copy() {
        NoArmsCrossed x = new NoArmsCrossed();
        Due.numbers(x, 0, 2, 10, 11, 12, 13, 14);
        Due.numbers(x, 1, 2, 20, 21, 22);
        Due.fine(x, "copy(0, 1, 3, 0, 2)", () -> x.copy(0, 1, 3, 0, 2), 1);
        elements(x, 1, 13, 14, 22);
        elements(x, 0, 10, 11, 12, 13, 14);
        Due.fine(x, "copy(0, 0, 0, 1, 4)", () -> x.copy(0, 0, 0, 1, 4), 1);
        elements(x, 0, 10, 10, 11, 12, 13);
        Due.fine(x, "copy(0, 0, 2, 0, 3)", () -> x.copy(0, 0, 2, 0, 3), 1);
        elements(x, 0, 11, 12, 13, 12, 13);
        Due.fine(x, "none from the end to the end", () -> x.copy(0, 1, 5, 3, 0), 1);
        elements(x, 1, 13, 14, 22);
    }

    private static void copyRefused() {
        NoArmsCrossed x = new NoArmsCrossed();
        Due.numbers(x, 0, 2, 10, 11, 12);
        Due.numbers(x, 1, 2, 20, 21);
        Due.numbers(x, 2, 1, 30);
        x.guest(0, 0, 0);
        x.show(3, 0);
        Due.refused(x, "copy(8, 3, ..)", () -> x.copy(8, 3, 0, 0, -1), -1);
        Due.refused(x, "copy(3, -1, ..)", () -> x.copy(3, -1, 0, 0, -1), -1);
        Due.refused(x, "copy from a GUEST to NOTHING", () -> x.copy(3, 4, 0, 0, 0), -2);
        Due.refused(x, "copy from NOTHING to a GUEST", () -> x.copy(4, 3, 0, 0, 0), -2);
        Due.refused(x, "copy to another SORT", () -> x.copy(0, 2, 0, 0, -1), -2);
        Due.refused(x, "copy from NOTHING", () -> x.copy(4, 0, 0, 0, -1), -3);
        Due.refused(x, "copy to NOTHING", () -> x.copy(0, 4, 0, 0, -1), -3);
        Due.refused(x, "copy fewer than none", () -> x.copy(0, 1, -1, 0, -1), -4);
        Due.refused(x, "copy from -1", () -> x.copy(0, 1, -1, 0, 1), -5);
        Due.refused(x, "copy to -1", () -> x.copy(0, 1, 0, -1, 1), -5);
        Due.refused(x, "copy from behind the end", () -> x.copy(0, 1, 2, 0, 2), -5);
        Due.refused(x, "copy to behind the end", () -> x.copy(0, 1, 0, 1, 2), -5);
        Due.refused(x, "copy none from behind the end", () -> x.copy(0, 1, 4, 0, 0), -5);
        Due.refused(x, "copy very many", () -> x.copy(0, 1, 1, 1, Integer.MAX_VALUE), -5);
        Due.refused(x, "copy from far away", () -> x.copy(0, 1, Integer.MAX_VALUE, 1, 1), -5);
        elements(x, 1, 20, 21);
    }

    private static void elements(NoArmsCrossed x, int s, long... due) {
        for (int i = 0; i < due.length; i++) {
            Due.is("element(" + s + ", " + i + ")", x.element(s, i), due[i]);
        }
    }

    /** Promise 5. */
    private static void element() {
        NoArmsCrossed x = new NoArmsCrossed();
        Due.numbers(x, 0, 3, Long.MIN_VALUE, 7);
        x.guest(0, 0, 0);
        x.show(1, 0);
        Due.is("element(0, 0)", x.element(0, 0), Long.MIN_VALUE);
        Due.is("element(0, 1)", x.element(0, 1), 7);
        for (int[] none : new int[][] {{0, 2}, {0, -1}, {1, 0}, {2, 0}, {8, 0}, {-1, 0}}) {
            Due.fine(x, "element that isn't there", () -> (int) x.element(none[0], none[1]), 0);
        }
        x.row(0, 3, 1);
        Due.is("what a longer ROW had", x.element(0, 1), 0);
        x.set(0, 0, 5);
        x.show(0, 0);
        Due.is("what a ROW had, of a GUEST", x.element(0, 0), 0);
        x.show(0, -1);
        Due.is("what a ROW had, of NOTHING", x.element(0, 0), 0);
    }

    /** Promise 6. */
    private static void show() {
        NoArmsCrossed x = Due.plain(8, 2);
        Due.fine(x, "show(0, 1)", () -> x.show(0, 1), 1);
        Due.is("holds(0)", x.holds(0), 1);
        Due.fine(x, "show(0, NONE)", () -> x.show(0, -1), 0);
        Due.is("holds(0)", x.holds(0), -1);
        x.row(0, 0, 3);
        Due.fine(x, "show(0, 0) over a ROW", () -> x.show(0, 0), 1);
        Due.is("holds(0)", x.holds(0), 0);
        Due.refused(x, "show(8, 0)", () -> x.show(8, 0), -1);
        Due.refused(x, "show(-1, NONE)", () -> x.show(-1, -1), -1);
        Due.refused(x, "show(0, 2)", () -> x.show(0, 2), -1);
        Due.refused(x, "show(0, -2)", () -> x.show(0, -2), -1);
        Due.is("holds(0) after refusals", x.holds(0), 0);
    }

    /** Promise 7. */
    private static void holds() {
        NoArmsCrossed x = Due.plain(12, 10);
        for (int sort = 0; sort < 4; sort++) {
            x.row(sort, sort, 0);
            Due.is("holds a ROW", x.holds(sort), 100 + sort);
        }
        x.show(4, 9);
        Due.is("holds a GUEST", x.holds(4), 9);
        Due.fine(x, "holds(5)", () -> x.holds(5), -1);
        Due.fine(x, "holds(8)", () -> x.holds(8), -1);
        Due.fine(x, "holds(-1)", () -> x.holds(-1), -1);
    }

    /** Promise 8: one GUEST of each KIND, KIND g in SHELF g, in SEAT g, his a 9 less g. */
    private static NoArmsCrossed oneOfEach() {
        NoArmsCrossed x = new NoArmsCrossed();
        x.seats(12);
        for (int kind = 0; kind < 7; kind++) {
            x.guest(kind, kind, 9 - kind);
            x.show(kind, kind);
        }
        return x;
    }

    private static void says() {
        NoArmsCrossed x = oneOfEach();
        for (int g = 0; g < 7; g++) {
            int shelf = g;
            Due.fine(x, "says(" + g + ", GUEST)", () -> x.says(shelf, 0), g);
        }
        // all may clink with all but the SOBER one
        Due.fine(x, "says(1, SHORT)", () -> x.says(1, 1), 5);
        Due.fine(x, "says(3, SHORT)", () -> x.says(3, 1), 5);
        Due.fine(x, "says(3, SHY)", () -> x.says(3, 3), 5);
        Due.fine(x, "says(2, SLOW)", () -> x.says(2, 2), 8);
        Due.fine(x, "says(5, SLOW)", () -> x.says(5, 2), 5);
        Due.fine(x, "says(5, SOBER)", () -> x.says(5, 5), 4);
        Due.fine(x, "says(4, LEFTY)", () -> x.says(4, 4), 5);
        Due.fine(x, "says(6, LEFTY)", () -> x.says(6, 4), 5);
        Due.fine(x, "says(6, HOST)", () -> x.says(6, 6), 5);
        x.had(6, 1, true);
        x.had(3, 1, true);
        Due.is("WANTED, one had", x.says(6, 6), 4);
        Due.is("MAY be, whether had or not", x.says(3, 3), 5);
        x.bar(3, 1, true);
        Due.is("MAY be, one BARRED", x.says(3, 3), 4);
        x.eyes(1);
        Due.is("alone, without EYES", x.says(2, 2), 8);
    }

    private static void saysRefused() {
        NoArmsCrossed x = oneOfEach();
        x.row(7, 0, 1);
        Due.refused(x, "says(8, 0)", () -> x.says(8, 0), -1);
        Due.refused(x, "says(-1, 0)", () -> x.says(-1, 0), -1);
        Due.refused(x, "says(7, 7)", () -> x.says(7, 7), -1);
        Due.refused(x, "says(0, -1)", () -> x.says(0, -1), -1);
        Due.refused(x, "says of a ROW", () -> x.says(7, 0), -2);
        int[][] not = {{0, 1}, {0, 6}, {1, 3}, {1, 2}, {2, 5}, {2, 1}, {3, 2}, {3, 4}, {4, 6}, {5, 1}, {5, 3}, {6, 5}};
        for (int[] n : not) {
            Due.refused(x, "says(" + n[0] + ", " + n[1] + ")", () -> x.says(n[0], n[1]), -2);
        }
        x.show(0, -1);
        Due.refused(x, "says of NOTHING", () -> x.says(0, 0), -3);
    }
}
