/** Promises 26 to 36: what comes of the table, changing nothing. */
public final class OutcomesTest {
    public static void main(String[] args) {
        fewest();
        bound();
        lasts();
        leftOut();
        never();
        bestChange();
        freeSeat();
        freeSeatRefused();
        judge();
        judgeRefused();
        behind();
        behindRefused();
        told();
        toldRefused();
        layers();
        Due.end("OutcomesTest");
    }

    /** Promise 26. */
    private static void fewest() {
        NoArmsCrossed x = Due.only(6, 2, 105, 203, 204, 304, 405);
        Due.fine(x, "fewer than by always the most", x::fewest, 3);
        NoArmsCrossed none = new NoArmsCrossed();
        Due.fine(none, "fewest of nothing", none::fewest, 0);
        NoArmsCrossed four = Due.plain(8, 4);
        Due.fine(four, "fewest of four GUESTS", four::fewest, 4);
        NoArmsCrossed five = Due.plain(8, 5);
        Due.fine(five, "fewest of 10 PAIRS", five::fewest, 5);
        NoArmsCrossed six = Due.plain(8, 6);
        Due.refused(six, "fewest of 15 PAIRS", six::fewest, -7);
        for (int q = 1; q < 5; q++) {
            six.had(0, q, true);
        }
        Due.refused(six, "fewest of 11 PAIRS", six::fewest, -7);
        six.had(0, 5, true);
        Due.fine(six, "fewest of 10 PAIRS of six", six::fewest, 5);
        NoArmsCrossed apart = Due.only(6, 2, 103, 405);
        Due.fine(apart, "fewest of two that cross and one apart", apart::fewest, 2);
        NoArmsCrossed one = Due.only(2, 1);
        Due.fine(one, "fewest of one PAIR", one::fewest, 1);
        NoArmsCrossed star = Due.only(10, 1, 2, 3, 4, 5, 6, 7, 8, 9);
        Due.fine(star, "fewest of a star", star::fewest, 9);
    }

    /** Promise 27. */
    private static void bound() {
        NoArmsCrossed x = Due.only(6, 2, 105, 203, 204, 405);
        Due.fine(x, "bound", x::bound, 3);
        x.had(2, 3, true);
        Due.fine(x, "bound", x::bound, 2);
        NoArmsCrossed star = Due.only(10, 1, 2, 3, 4, 5, 6, 7, 8, 9);
        Due.fine(star, "bound of a star", star::bound, 9);
        NoArmsCrossed none = new NoArmsCrossed();
        Due.fine(none, "bound of none", none::bound, 0);
        NoArmsCrossed full = Due.plain(12, 10);
        Due.fine(full, "bound of ten", full::bound, 9);
    }

    /** Promise 28: rounds are 0 1 with 2 3; 0 3 with 1 2; 0 2; 1 3. */
    private static void lasts() {
        NoArmsCrossed x = new NoArmsCrossed();
        x.guest(0, 0, 9);
        x.guest(2, 1, 2);
        x.guest(2, 2, 5);
        x.guest(0, 3, 9);
        Due.fine(x, "LASTS", () -> x.lasts(0), 6 + 6 + 6 + 3);
        Due.fine(x, "ALONE", () -> x.lasts(1), 3 + 6 + 1 + 6 + 3 + 6);
        x.eyes(1);
        Due.fine(x, "LASTS with EYES", () -> x.lasts(0), 42);
        Due.fine(x, "ALONE with EYES", () -> x.lasts(1), 50);
        Due.refused(x, "lasts(2)", () -> x.lasts(2), -5);
        Due.refused(x, "lasts(-1)", () -> x.lasts(-1), -5);
        NoArmsCrossed none = new NoArmsCrossed();
        Due.fine(none, "LASTS of none", () -> none.lasts(0), 0);
        Due.fine(none, "ALONE of none", () -> none.lasts(1), 0);
        Due.is("nothing is changed", x.status(4), 0);
        x.goes(1);
        Due.fine(x, "LASTS after a ROUND", () -> x.lasts(0), 30);
        x.goes(45);
        Due.fine(x, "LASTS after all", () -> x.lasts(0), 0);
        Due.fine(x, "ALONE after all", () -> x.lasts(1), 0);
    }

    /** Promise 29. */
    private static void leftOut() {
        NoArmsCrossed x = Due.only(5, 1, 102, 203, 304);
        Due.fine(x, "leftOut, the first of several", x::leftOut, 1);
        x.had(0, 1, true);
        Due.fine(x, "leftOut", x::leftOut, 2);
        x.had(2, 4, false);
        Due.fine(x, "leftOut", x::leftOut, 2);
        x.had(4, 1, false);
        Due.fine(x, "leftOut", x::leftOut, 2);
        x.had(4, 0, false);
        Due.fine(x, "leftOut", x::leftOut, 4);
        NoArmsCrossed nothing = Due.only(3);
        Due.fine(nothing, "leftOut, nothing WANTED", nothing::leftOut, 0);
        NoArmsCrossed none = new NoArmsCrossed();
        Due.refused(none, "leftOut of none", none::leftOut, -5);
    }

    /** Promise 30. */
    private static void never() {
        NoArmsCrossed x = Due.plain(8, 4);
        Due.fine(x, "never", x::never, 0);
        x.had(0, 1, true);
        Due.fine(x, "never, one HAD", x::never, 0);
        x.bar(0, 1, true);
        x.bar(2, 1, true);
        Due.fine(x, "never, two BARRED", x::never, 2);
        x.guest(5, 7, 0);
        Due.fine(x, "never, and a SOBER one", x::never, 6);
        NoArmsCrossed none = new NoArmsCrossed();
        Due.fine(none, "never of none", none::never, 0);
    }

    /** Promise 31. */
    private static void bestChange() {
        NoArmsCrossed two = Due.only(4, 2, 103);
        Due.fine(two, "bestChange, the first of several", two::bestChange, 1);
        Due.is("nothing is changed", two.guestOf(0, 1), 0);
        // 0 1 makes it 2, 0 2 makes it 3
        NoArmsCrossed three = Due.only(6, 3, 104, 205);
        Due.fine(three, "bestChange, not the first that is greater", three::bestChange, 2);
        NoArmsCrossed four = Due.plain(8, 4);
        Due.fine(four, "bestChange, none is greater", four::bestChange, -1);
        NoArmsCrossed none = new NoArmsCrossed();
        Due.fine(none, "bestChange of none", none::bestChange, -1);
        NoArmsCrossed one = Due.plain(8, 1);
        Due.fine(one, "bestChange of one", one::bestChange, -1);
        NoArmsCrossed near = new NoArmsCrossed();
        near.guest(0, 0, 0);
        near.guest(1, 4, 0);
        near.guest(5, 1, 0);
        Due.fine(near, "a SHORT one comes nearer, or the other does", near::bestChange, 102);
    }

    /** Promise 32. */
    private static void freeSeat() {
        NoArmsCrossed x = new NoArmsCrossed();
        x.guest(0, 0, 0);
        x.guest(0, 3, 0);
        x.guest(0, 5, 0);
        Due.fine(x, "freeSeat(GUEST)", () -> x.freeSeat(0, 0), 1);
        Due.fine(x, "freeSeat(SHORT, 0)", () -> x.freeSeat(1, 0), 4);
        Due.fine(x, "freeSeat(SHORT, 1)", () -> x.freeSeat(1, 1), 1);
        Due.fine(x, "freeSeat(SHORT, 2)", () -> x.freeSeat(3, 2), 2);
        Due.fine(x, "freeSeat(SOBER)", () -> x.freeSeat(5, 0), 1);
        x.guest(3, 4, 9);
        Due.fine(x, "a SHY one is none for a SHY one", () -> x.freeSeat(3, 0), 1);
        Due.is("nothing is changed", x.status(0), 4);
        Due.is("nothing is changed", x.wanted(-1), 6);
        NoArmsCrossed none = new NoArmsCrossed();
        Due.fine(none, "freeSeat of an empty table", () -> none.freeSeat(6, 9), 0);
        NoArmsCrossed last = Due.plain(8, 7);
        Due.fine(last, "the only free SEAT", () -> last.freeSeat(1, 0), 7);
    }

    private static void freeSeatRefused() {
        NoArmsCrossed x = Due.plain(3, 3);
        Due.refused(x, "freeSeat(7, 10), none free", () -> x.freeSeat(7, 10), -1);
        Due.refused(x, "freeSeat(-1, 0)", () -> x.freeSeat(-1, 0), -1);
        Due.refused(x, "freeSeat, none free", () -> x.freeSeat(0, 10), -5);
        NoArmsCrossed full = Due.plain(12, 10);
        Due.refused(full, "freeSeat(0, 10) of ten", () -> full.freeSeat(0, 10), -6);
        Due.refused(full, "freeSeat(0, -1) of ten", () -> full.freeSeat(0, -1), -6);
        Due.refused(full, "freeSeat(0, 0) of ten", () -> full.freeSeat(0, 0), -7);
        NoArmsCrossed both = Due.plain(10, 10);
        Due.refused(both, "freeSeat of ten in ten", () -> both.freeSeat(0, 0), -5);
    }

    /** Promise 33. */
    private static void judge() {
        NoArmsCrossed x = Due.plain(6, 5);
        x.had(0, 4, true);
        x.bar(1, 4, true);
        judged(x, -1);
        judged(x, -1, 1, 203, -1, 2, 304);
        judged(x, -1, -1, -1, 1, -1);
        judged(x, 2, 1, 203, 4);
        judged(x, 1, 1, 104);
        judged(x, 1, 1, 102);
        judged(x, 1, 2, 103);
        judged(x, 1, 2, 203);
        judged(x, 1, 2, 2);
        judged(x, 2, 1, -1, 1);
        judged(x, -1, 1, -1, 2);
        judged(x, 2, 1, 203, 4, 1);
        judged(x, 0, 100);
        judged(x, 0, 303);
        judged(x, 0, 5);
        judged(x, 0, -2);
        judged(x, 0, 100000);
        judged(x, 1, 3, 412);
        judged(x, 3, 1, -1, 2, 103);
        judged(x, 3, 1, -1, 2, 34, 103);
        Due.numbers(x, 1, 3, 1, 0x7_0000_0000L + 203, 0xFFFF_FFFFL, 2);
        Due.fine(x, "longs count by their lowest 32 bits", () -> x.judge(1, 4), -1);
        Due.numbers(x, 1, 0, 1, -1, 102, 7);
        Due.fine(x, "only the first n elements", () -> x.judge(1, 3), -1);
        Due.fine(x, "one more", () -> x.judge(1, 4), 3);
        Due.is("nothing is changed", x.status(2), 1);
        x.row(2, 1, 60);
        for (int i = 0; i < 60; i++) {
            x.set(2, i, -1);
        }
        Due.fine(x, "60 elements", () -> x.judge(2, 60), -1);
    }

    private static void judged(NoArmsCrossed x, int due, long... told) {
        Due.numbers(x, 0, 2, told);
        String call = "judge " + java.util.Arrays.toString(told);
        Due.fine(x, call, () -> x.judge(0, told.length), due);
    }

    private static void judgeRefused() {
        NoArmsCrossed x = Due.plain(6, 3);
        x.row(0, 1, 61);
        x.show(1, 0);
        Due.refused(x, "judge(8, -1)", () -> x.judge(8, -1), -11);
        Due.refused(x, "judge(-1, 0)", () -> x.judge(-1, 0), -11);
        Due.refused(x, "judge of a GUEST", () -> x.judge(1, -1), -12);
        Due.refused(x, "judge of NOTHING", () -> x.judge(2, -1), -13);
        Due.refused(x, "judge(0, -1)", () -> x.judge(0, -1), -14);
        Due.refused(x, "judge(0, 62)", () -> x.judge(0, 62), -15);
        Due.refused(x, "judge(0, MAX)", () -> x.judge(0, Integer.MAX_VALUE), -15);
        Due.refused(x, "judge(0, 61)", () -> x.judge(0, 61), -16);
    }

    /** Promise 34. */
    private static void behind() {
        NoArmsCrossed x = Due.plain(6, 4);
        Due.numbers(x, 0, 1, 1, 203, -1, 2, -1, -1, 103);
        int[][] due = {{0, 6, 0}, {1, 5, 1}, {2, 4, 1}, {3, 4, 2}, {4, 3, 2}, {5, 3, 3}, {6, 3, 4}, {7, 2, 4}};
        for (int[] d : due) {
            Due.fine(x, "behind(0, " + d[0] + ", 0)", () -> x.behind(0, d[0], 0), d[1]);
            Due.fine(x, "behind(0, " + d[0] + ", 1)", () -> x.behind(0, d[0], 1), d[2]);
        }
        Due.numbers(x, 0, 1, -1);
        Due.fine(x, "behind -1 alone", () -> x.behind(0, 1, 1), 2);
        Due.is("nothing is changed", x.wanted(-1), 6);
    }

    private static void behindRefused() {
        NoArmsCrossed x = Due.plain(6, 3);
        x.row(0, 1, 61);
        x.show(1, 0);
        Due.refused(x, "behind(8, -1, 2)", () -> x.behind(8, -1, 2), -1);
        Due.refused(x, "behind of a GUEST", () -> x.behind(1, -1, 2), -2);
        Due.refused(x, "behind of NOTHING", () -> x.behind(2, -1, 2), -3);
        Due.refused(x, "behind(0, -1, 2)", () -> x.behind(0, -1, 2), -4);
        Due.refused(x, "behind(0, 62, 0)", () -> x.behind(0, 62, 0), -5);
        Due.refused(x, "behind(0, 61, 2)", () -> x.behind(0, 61, 2), -5);
        Due.refused(x, "behind(0, 1, -1)", () -> x.behind(0, 1, -1), -5);
        Due.refused(x, "behind(0, 61, 0)", () -> x.behind(0, 61, 0), -6);
        Due.refused(x, "behind what is WRONG", () -> x.behind(0, 1, 1), -6);
    }

    /** Promise 35. */
    private static void told() {
        NoArmsCrossed x = Due.plain(6, 4);
        long[][] rows = {{0, 0, 0, 0}, {14, 13, 11, 7}, {2, 1, 0, 0}, {2, 0, 0, 0}, {0, 1, 0, 0}, {14, 1, 0, 0},
            {2, 0, 8, 0}, {0, 12, 0, 0}, {0, 8, 8, 0}, {2, 4, 1, 0}, {0, 0, 9, 4}};
        int[][] due = {{0, -1}, {0, -1}, {0, -1}, {1, 0}, {1, 0}, {2, 0}, {2, -1}, {2, 1}, {2, 3}, {3, -1}, {1, 0}};
        for (int i = 0; i < rows.length; i++) {
            Due.numbers(x, 0, i % 4, rows[i]);
            String said = java.util.Arrays.toString(rows[i]);
            Due.fine(x, "told(0, 0) of " + said, () -> x.told(0, 0), due[i][0]);
            Due.fine(x, "told(0, 1) of " + said, () -> x.told(0, 1), due[i][1]);
        }
        Due.numbers(x, 1, 0, 0, 0, 0, 0, -1);
        Due.fine(x, "more elements than GUESTS", () -> x.told(1, 0), 0);
        Due.numbers(x, 2, 3, 0x1_0000_0000L, 0, 0, 0);
        Due.fine(x, "longs count by their lowest 32 bits", () -> x.told(2, 0), 0);
        NoArmsCrossed none = new NoArmsCrossed();
        none.row(0, 0, 0);
        Due.fine(none, "told of none", () -> none.told(0, 0), 0);
        Due.fine(none, "LIAR of none", () -> none.told(0, 1), -1);
        x.had(0, 1, true);
        Due.fine(x, "what is HAD doesn't count", () -> x.told(2, 0), 0);
    }

    private static void toldRefused() {
        NoArmsCrossed x = Due.plain(8, 4);
        x.show(1, 0);
        Due.refused(x, "told(8, 2)", () -> x.told(8, 2), -11);
        Due.refused(x, "told(-1, 0)", () -> x.told(-1, 0), -11);
        Due.refused(x, "told of a GUEST", () -> x.told(1, 2), -12);
        Due.refused(x, "told of NOTHING", () -> x.told(2, 2), -13);
        Due.numbers(x, 0, 2, 16, 0, 0);
        Due.refused(x, "told, fewer elements", () -> x.told(0, 0), -15);
        Due.numbers(x, 0, 2, 16, 0, 0, 0);
        Due.refused(x, "told(0, 2)", () -> x.told(0, 2), -15);
        Due.refused(x, "told(0, -1)", () -> x.told(0, -1), -15);
        Due.refused(x, "bits of another than there is", () -> x.told(0, 0), -16);
        long[][] not = {{1, 0, 0, 0}, {0, 2, 0, 0}, {0, 0, 0, 8}, {0, 0, 0, -8}, {0, 0, 1 << 31, 0}, {0, 32, 0, 0}};
        for (long[] n : not) {
            Due.numbers(x, 0, 2, n);
            Due.refused(x, "told " + java.util.Arrays.toString(n), () -> x.told(0, 1), -16);
        }
        NoArmsCrossed eight = Due.plain(8, 8);
        Due.numbers(eight, 0, 0, 128, 0, 0, 0, 0, 0, 0, 0);
        Due.refused(eight, "128 as a byte", () -> eight.told(0, 0), -16);
        Due.numbers(eight, 0, 1, 128, 0, 0, 0, 0, 0, 0, 0);
        Due.fine(eight, "128 as a short", () -> eight.told(0, 0), 1);
    }

    /** Promise 36. */
    private static void layers() {
        NoArmsCrossed none = new NoArmsCrossed();
        Due.fine(none, "layers of nothing", none::layers, 0);
        NoArmsCrossed four = Due.plain(8, 4);
        Due.fine(four, "layers of four", four::layers, 2);
        Due.is("nothing is changed", four.wanted(-1), 6);
        NoArmsCrossed star = Due.only(10, 1, 2, 3, 4, 5, 6, 7, 8, 9);
        Due.fine(star, "a GUEST may be in several of one layer", star::layers, 1);
        NoArmsCrossed three = Due.only(6, 3, 104, 205);
        Due.fine(three, "layers of three that all cross", three::layers, 3);
        three.change(0, 2);
        Due.fine(three, "layers when none cross any more", three::layers, 1);
        // each into the first: 0 2 and 0 5 in one, so 1 4 (crosses 0 2) and 2 7 (0 5, 1 4) make two more
        NoArmsCrossed first = Due.only(8, 2, 5, 104, 207);
        Due.fine(first, "layers", first::layers, 3);
        NoArmsCrossed lefty = new NoArmsCrossed();
        for (int g = 0; g < 4; g++) {
            lefty.guest(g < 2 ? 4 : 0, g, 0);
        }
        Due.fine(lefty, "layers, a LEFTY in each", lefty::layers, 1);
    }
}
