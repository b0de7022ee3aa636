/** Promises 37 to 47: what changes the table in truth, ACTS, THE IMAGE, status. */
public final class InTruthTest {
    public static void main(String[] args) {
        clink();
        goes();
        change();
        leaves();
        feast();
        feastOfThree();
        feastTakes();
        seed();
        act();
        actOfNone();
        trace();
        image();
        restore();
        status();
        Due.end("InTruthTest");
    }

    private static void counts(NoArmsCrossed x, String when, int had, int clinks, int seconds) {
        Due.is("PAIRS that have HAD it " + when, x.status(2), had);
        Due.is("CLINKS " + when, x.status(3), clinks);
        Due.is("SECONDS " + when, x.status(4), seconds);
    }

    /** Promise 37. */
    private static void clink() {
        NoArmsCrossed x = Due.plain(8, 3);
        x.guest(2, 3, 4);
        x.guest(5, 4, 1);
        Due.fine(x, "clink(2, 0)", () -> x.clink(2, 0), 5);
        counts(x, "after a clink", 1, 1, 1);
        Due.is("with whom 0 has HAD it", x.guestOf(0, 3), 4);
        Due.fine(x, "clink(1, 3)", () -> x.clink(1, 3), 4);
        counts(x, "after a slow clink", 2, 2, 6);
        x.eyes(1);
        Due.fine(x, "clink(2, 1)", () -> x.clink(2, 1), 3);
        counts(x, "after one with EYES", 3, 3, 8);
        Due.pairRefused(x, "clink", x::clink);
        Due.refused(x, "clink once more", () -> x.clink(0, 2), -6);
        Due.refused(x, "clink with a SOBER one", () -> x.clink(0, 4), -6);
        x.bar(0, 1, true);
        Due.refused(x, "clink of a BARRED PAIR", () -> x.clink(1, 0), -6);
        counts(x, "after refusals", 3, 3, 8);
    }

    /** Promise 38: rounds are 0 1 with 2 3; 0 3 with 1 2; 0 2; 1 3. */
    private static void goes() {
        NoArmsCrossed x = Due.plain(8, 3);
        x.guest(2, 3, 4);
        Due.refused(x, "goes(0)", () -> x.goes(0), -6);
        Due.refused(x, "goes(46)", () -> x.goes(46), -6);
        Due.refused(x, "goes(-1)", () -> x.goes(-1), -6);
        Due.fine(x, "goes(1)", () -> x.goes(1), 2);
        counts(x, "after a ROUND", 2, 2, 5);
        Due.is("HAD with 0", x.guestOf(0, 3), 2);
        Due.is("HAD with 3", x.guestOf(3, 3), 4);
        Due.fine(x, "goes(2)", () -> x.goes(2), 3);
        counts(x, "after three ROUNDS", 5, 5, 11);
        Due.is("the PAIR that is WANTED still", x.wanted(0), 103);
        Due.fine(x, "goes(45)", () -> x.goes(45), 1);
        counts(x, "after all", 6, 6, 16);
        Due.fine(x, "goes(45), nothing WANTED", () -> x.goes(45), 0);
        Due.refused(x, "goes(46), nothing WANTED", () -> x.goes(46), -6);
        counts(x, "after nothing", 6, 6, 16);
        NoArmsCrossed full = Due.plain(12, 10);
        Due.fine(full, "goes(45) of ten", () -> full.goes(45), 45);
        Due.is("WANTED", full.wanted(-1), 0);
    }

    /** Promise 39. */
    private static void change() {
        NoArmsCrossed x = Due.plain(8, 3);
        x.had(0, 1, true);
        Due.fine(x, "change(2, 0)", () -> x.change(2, 0), 1);
        Due.is("SEAT of 0", x.guestOf(0, 1), 2);
        Due.is("SEAT of 2", x.guestOf(2, 1), 0);
        Due.is("SEAT of 1", x.guestOf(1, 1), 1);
        Due.is("HAD goes with the GUEST", x.guestOf(0, 3), 2);
        Due.pairRefused(x, "change", x::change);
        counts(x, "after a change", 1, 0, 0);
    }

    /** Promise 40. */
    private static void leaves() {
        NoArmsCrossed x = Due.plain(8, 3);
        x.had(0, 2, true);
        x.had(0, 1, true);
        x.bar(1, 2, true);
        x.show(0, 2);
        x.show(1, 1);
        x.row(2, 0, 0);
        x.show(7, 2);
        Due.fine(x, "leaves", x::leaves, 2);
        Due.is("SHELF 0", x.holds(0), -1);
        Due.is("SHELF 1", x.holds(1), 1);
        Due.is("SHELF 2", x.holds(2), 100);
        Due.is("SHELF 7", x.holds(7), -1);
        counts(x, "after he has gone", 1, 0, 0);
        Due.is("BARRED with 1", x.guestOf(1, 4), 0);
        Due.is("HAD with 0", x.guestOf(0, 3), 2);
        Due.fine(x, "another in his SEAT", () -> x.guest(0, 2, 0), 2);
        Due.is("HAD with the other", x.guestOf(2, 3), 0);
        Due.is("BARRED with the other", x.guestOf(2, 4), 0);
        Due.is("SHELF 0 still", x.holds(0), -1);
        Due.fine(x, "leaves", x::leaves, 2);
        Due.fine(x, "leaves", x::leaves, 1);
        Due.fine(x, "leaves", x::leaves, 0);
        Due.refused(x, "leaves, there is none", x::leaves, -6);
    }

    /** Promise 41: of two, from SEED 1: 0 0, 1 1, 1 1, 0 1, 0 0, 1 1. */
    private static void feast() {
        NoArmsCrossed x = new NoArmsCrossed();
        Due.refused(x, "feast of none", () -> x.feast(61), -5);
        x.guest(0, 2, 0);
        x.guest(0, 6, 0);
        Due.refused(x, "feast(0)", () -> x.feast(0), -6);
        Due.refused(x, "feast(61)", () -> x.feast(61), -6);
        Due.is("SEED after refusals", x.status(6), 1);
        Due.fine(x, "feast(3)", () -> x.feast(3), 0);
        Due.is("SEED", x.status(6), -1778682749);
        Due.is("SEAT", x.guestOf(0, 1), 2);
        Due.fine(x, "feast(1)", () -> x.feast(1), 1);
        Due.is("SEED", x.status(6), -1661227463);
        counts(x, "after a clink", 1, 1, 1);
        x.seed(-1778682749);
        Due.fine(x, "feast(1), HAD", () -> x.feast(1), 0);
        Due.is("SEAT changed", x.guestOf(0, 1), 6);
        Due.is("SEAT changed", x.guestOf(1, 1), 2);
        NoArmsCrossed one = Due.plain(8, 1);
        Due.fine(one, "feast(60) of one", () -> one.feast(60), 0);
        Due.is("SEAT", one.guestOf(0, 1), 0);
    }

    /** Of three, from SEED 1: 2 0, 0 0, 0 1, 2 2, 2 0, 1 2. */
    private static void feastOfThree() {
        NoArmsCrossed x = Due.plain(8, 3);
        Due.fine(x, "feast(1)", () -> x.feast(1), 1);
        Due.is("HAD with 0", x.guestOf(0, 3), 4);
        Due.fine(x, "feast(2)", () -> x.feast(2), 1);
        Due.is("HAD with 0", x.guestOf(0, 3), 6);
        Due.fine(x, "feast(1)", () -> x.feast(1), 0);
        Due.is("SEAT of 0", x.guestOf(0, 1), 0);
        Due.fine(x, "feast(1)", () -> x.feast(1), 0);
        Due.is("SEAT of 0", x.guestOf(0, 1), 2);
        Due.is("SEAT of 2", x.guestOf(2, 1), 0);
        Due.fine(x, "feast(1)", () -> x.feast(1), 1);
        Due.is("SEAT of 0", x.guestOf(0, 1), 2);
        counts(x, "after the FEAST", 3, 3, 3);
        Due.is("SEED", x.status(6), 836760821);
        NoArmsCrossed y = Due.plain(8, 3);
        Due.fine(y, "feast(6)", () -> y.feast(6), 3);
        Due.is("SEED", y.status(6), 836760821);
    }

    private static void feastTakes() {
        NoArmsCrossed x = new NoArmsCrossed();
        x.guest(2, 0, 3);
        x.guest(0, 1, 0);
        x.guest(2, 4, 5);
        x.eyes(1);
        Due.fine(x, "feast(6)", () -> x.feast(6), 3);
        counts(x, "each clink takes its own", 3, 3, 12 + 8 + 12);
        NoArmsCrossed sober = new NoArmsCrossed();
        sober.guest(5, 0, 0);
        sober.guest(0, 1, 0);
        sober.seed(-1778682749);
        Due.fine(sober, "feast(1) with a SOBER one", () -> sober.feast(1), 0);
        Due.is("SEAT changed", sober.guestOf(0, 1), 1);
    }

    /** Promise 42. */
    private static void seed() {
        NoArmsCrossed x = new NoArmsCrossed();
        Due.fine(x, "seed(MIN)", () -> x.seed(Integer.MIN_VALUE), 1);
        Due.fine(x, "seed(0)", () -> x.seed(0), Integer.MIN_VALUE);
        Due.fine(x, "seed(-5)", () -> x.seed(-5), 0);
        Due.is("SEED", x.status(6), -5);
    }

    /** Promise 43: GUEST g of KIND g, his a 2 and g, x 10. */
    private static void act() {
        NoArmsCrossed x = Due.plain(8, 0);
        for (int kind = 0; kind < 7; kind++) {
            x.guest(kind, kind, 2 + kind % 4);
        }
        // a is 2 3 4 5 2 3 4
        int[] clinks = {10, 10 + 1 + 3, 12, 10 + 3 + 5, 10, 15, 20};
        int[] waits = {20, 28, 72, (11 + 3 + 5) * 2, 20, 90, (10 - 4) * 2 * 2};
        int[] less = {8, 7 + 1 + 3, 6 + 2, 5 + 3 + 5, 8, 7 + 5, 6 * 2};
        for (int g = 0; g < 7; g++) {
            int who = g;
            int looks = waits[g] ^ less[g];
            looks = g == 4 || g == 6 ? -looks : g == 5 ? looks ^ 5 : looks;
            Due.fine(x, "act(" + g + ", 0, 10)", () -> x.act(who, 0, 10), clinks[g]);
            Due.fine(x, "act(" + g + ", 1, 10)", () -> x.act(who, 1, 10), waits[g]);
            Due.fine(x, "act(" + g + ", 2, 10)", () -> x.act(who, 2, 10), looks);
        }
        Due.fine(x, "wrapping", () -> x.act(5, 0, Integer.MAX_VALUE), Integer.MIN_VALUE + 4);
        Due.fine(x, "wrapping", () -> x.act(0, 1, Integer.MAX_VALUE), -2);
        Due.fine(x, "wrapping", () -> x.act(0, 2, Integer.MIN_VALUE), Integer.MAX_VALUE - 1);
        counts(x, "after ACTS", 0, 0, 0);
    }

    private static void actOfNone() {
        NoArmsCrossed x = Due.plain(8, 2);
        int[][] none = {{2, 0}, {-1, 0}, {0, 3}, {0, -1}, {Integer.MAX_VALUE, Integer.MIN_VALUE}};
        for (int[] n : none) {
            x.act(1, 2, 5);
            Due.is("bodies", x.status(7), 4);
            Due.fine(x, "act(" + n[0] + ", " + n[1] + ", 5)", () -> x.act(n[0], n[1], 5), 0);
            Due.is("bodies of none", x.status(7), 0);
            Due.fine(x, "trace of none", () -> x.trace(0), -1);
        }
    }

    private static NoArmsCrossed sevenKinds() {
        NoArmsCrossed x = new NoArmsCrossed();
        for (int kind = 0; kind < 7; kind++) {
            x.guest(kind, kind, 1);
        }
        return x;
    }

    /** Promise 44. */
    private static void trace() {
        int[][][] due = {
            {{10}, {11, 10}, {12, 11, 10, 10}},
            {{20, 10}, {11, 20, 10}, {12, 11, 20, 10, 20, 10}},
            {{10}, {30, 11, 10}, {12, 30, 11, 10, 10}},
            {{20, 10}, {40, 11, 20, 10}, {12, 40, 11, 20, 10, 20, 10}},
            {{51, 10}, {11, 51, 10}, {50, 12, 11, 51, 10, 51, 10}},
            {{10}, {30, 11, 10}, {60, 12, 30, 11, 10, 10}},
            {{70, 51, 10}, {71, 11, 70, 51, 10}, {50, 12, 71, 11, 70, 51, 10, 70, 51, 10}},
        };
        for (int g = 0; g < 7; g++) {
            NoArmsCrossed x = sevenKinds();
            for (int a = 0; a < 3; a++) {
                x.act(g, a, 3);
                Due.is("bodies", x.status(7), due[g][a].length);
                for (int i = 0; i < due[g][a].length; i++) {
                    Due.is("trace(" + i + ") of " + g + ", " + a, x.trace(i), due[g][a][i]);
                }
                int behind = due[g][a].length;
                Due.fine(x, "trace behind the last", () -> x.trace(behind), -1);
            }
        }
        NoArmsCrossed x = sevenKinds();
        x.act(6, 2, 3);
        for (int i : new int[] {-1, 10, 19, 20, 21, Integer.MAX_VALUE, Integer.MIN_VALUE}) {
            Due.fine(x, "trace(" + i + ")", () -> x.trace(i), -1);
        }
        x.image();
        x.restore();
        x.leaves();
        Due.is("THE TRACE stays", x.trace(0), 50);
        Due.is("the bodies stay", x.status(7), 10);
    }

    /** Promise 45. */
    private static void image() {
        NoArmsCrossed x = new NoArmsCrossed();
        Due.fine(x, "image of none", x::image, 0);
        x.guest(0, 0, 0);
        x.guest(0, 1, 0);
        Due.fine(x, "restore", x::restore, 0);
        Due.is("GUESTS", x.status(0), 0);
        x.guest(0, 3, 0);
        Due.fine(x, "image of one", x::image, 1);
        Due.is("nothing is changed", x.guestOf(0, 1), 3);
        x.leaves();
        Due.fine(x, "restore of the latest", x::restore, 1);
        Due.is("SEAT", x.guestOf(0, 1), 3);
    }

    /** Promise 46. */
    private static void restore() {
        NoArmsCrossed x = new NoArmsCrossed();
        Due.refused(x, "restore, there is none", x::restore, -6);
        x.seats(5);
        x.guest(2, 1, 4);
        x.guest(0, 4, 6);
        x.eyes(1);
        x.clink(0, 1);
        x.bar(0, 1, true);
        x.seed(77);
        x.image();
        x.bar(0, 1, false);
        x.had(0, 1, false);
        x.change(0, 1);
        x.eyes(0);
        x.guest(6, 2, 0);
        x.clink(2, 1);
        x.feast(3);
        x.show(0, 2);
        x.show(1, 1);
        x.row(2, 1, 1);
        x.set(2, 0, 42);
        Due.fine(x, "restore", x::restore, 2);
        int[][] due = {{2, 1, 4, 2, 2, 0}, {0, 4, 6, 1, 1, 0}};
        for (int g = 0; g < 2; g++) {
            for (int what = 0; what < 6; what++) {
                Due.is("guestOf(" + g + ", " + what + ")", x.guestOf(g, what), due[g][what]);
            }
        }
        Due.is("SEATS", x.status(1), 5);
        counts(x, "as THE IMAGE has it", 1, 1, 10);
        Due.is("EYES", x.status(5), 1);
        Due.is("SEED", x.status(6), 77);
        Due.is("a SHELF with a GUEST who is gone", x.holds(0), -1);
        Due.is("a SHELF with a GUEST", x.holds(1), 1);
        Due.is("a ROW is not in THE IMAGE", x.element(2, 0), 42);
        Due.is("REFUSALS are not in THE IMAGE", x.status(16), 1);
        while (x.status(0) > 0) {
            x.leaves();
        }
        x.seats(12);
        Due.fine(x, "restore once more", x::restore, 2);
        Due.is("SEATS", x.status(1), 5);
        x.guest(0, 0, 0);
        Due.is("HAD with a new one", x.guestOf(2, 3), 0);
    }

    /** Promise 47. */
    private static void status() {
        NoArmsCrossed x = new NoArmsCrossed();
        x.seats(9);
        x.guest(2, 1, 4);
        x.guest(0, 4, 6);
        x.guest(0, 5, 6);
        x.eyes(1);
        x.clink(0, 1);
        x.had(1, 2, true);
        x.seed(-8);
        x.act(0, 0, 0);
        int[] due = {3, 9, 2, 1, 10, 1, -8, 1};
        for (int what = 0; what < 8; what++) {
            int w = what;
            Due.fine(x, "status(" + what + ")", () -> x.status(w), due[what]);
        }
        for (int what : new int[] {-1, 8, 9, 10, 18, Integer.MAX_VALUE, Integer.MIN_VALUE}) {
            Due.fine(x, "status(" + what + ")", () -> x.status(what), -1);
        }
        x.may(0, 9);
        x.says(0, 9);
        x.row(0, 0, 0);
        x.says(0, 0);
        x.set(1, 0, 0);
        x.row(0, 0, -1);
        x.set(0, 0, 0);
        x.eyes(2);
        x.eyes(2);
        x.row(0, 0, 161);
        x.judge(9, 0);
        x.told(0, 0);
        int[] refusals = {3, 1, 1, 1, 2, 2, 1};
        for (int no = 0; no < 7; no++) {
            Due.is("status(" + (11 + no) + ")", x.status(11 + no), refusals[no]);
        }
    }
}
