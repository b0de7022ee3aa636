/** Promises 17 to 25: who may clink with whom, which arms cross, WANTED, the MOST, ROUNDS. */
public final class ClinksTest {
    public static void main(String[] args) {
        far();
        may();
        mayShort();
        takes();
        cross();
        crossKinds();
        wanted();
        most();
        ways();
        rounds();
        roundOf();
        Due.end("ClinksTest");
    }

    /** Promise 17. */
    private static void far() {
        NoArmsCrossed x = new NoArmsCrossed();
        x.seats(12);
        int[] seats = {0, 5, 7, 6, 11};
        for (int seat : seats) {
            x.guest(0, seat, 0);
        }
        int[][] due = {{0, 1, 5}, {0, 2, 5}, {0, 3, 6}, {0, 4, 1}, {1, 2, 2}, {4, 1, 6}, {2, 4, 4}};
        for (int[] d : due) {
            Due.fine(x, "far(" + d[0] + ", " + d[1] + ")", () -> x.far(d[0], d[1]), d[2]);
            Due.is("far the other way about", x.far(d[1], d[0]), d[2]);
        }
        Due.pairRefused(x, "far", x::far);
        NoArmsCrossed odd = Due.plain(3, 3);
        Due.is("far(0, 2) of 3 SEATS", odd.far(0, 2), 1);
    }

    /** Promise 18. */
    private static void may() {
        for (int p = 0; p < 7; p++) {
            NoArmsCrossed x = sevenKinds();
            for (int q = 0; q < 7; q++) {
                int one = p;
                int two = q;
                int due = p == 3 || q == 3 || (p == 1 && q == 2) || (p == 2 && q == 1) ? 0 : 1;
                if (p != q) {
                    Due.fine(x, "may(" + p + ", " + q + ")", () -> x.may(one, two), due);
                }
            }
        }
        NoArmsCrossed x = sevenKinds();
        x.bar(4, 5, true);
        Due.is("may, BARRED", x.may(5, 4), 0);
        x.had(0, 1, true);
        Due.is("may, HAD", x.may(0, 1), 1);
        Due.pairRefused(x, "may", x::may);
    }

    private static NoArmsCrossed sevenKinds() {
        NoArmsCrossed x = new NoArmsCrossed();
        x.seats(12);
        int[] kinds = {0, 3, 3, 5, 6, 4, 2};
        for (int g = 0; g < kinds.length; g++) {
            x.guest(kinds[g], g, 9);
        }
        return x;
    }

    /** A SHORT one reaches a and 1, from his side; a SHY one is SHORT. */
    private static void mayShort() {
        NoArmsCrossed x = new NoArmsCrossed();
        x.seats(10);
        x.guest(1, 0, 2);
        x.guest(0, 3, 0);
        x.guest(0, 4, 0);
        x.guest(0, 7, 9);
        x.guest(0, 6, 9);
        x.guest(3, 8, 0);
        x.guest(3, 9, 3);
        int[][] due = {{0, 1, 1}, {0, 2, 0}, {0, 3, 1}, {0, 4, 0}, {0, 5, 0}, {0, 6, 1}, {5, 3, 1}, {5, 4, 0},
            {6, 2, 0}, {6, 1, 1}, {1, 3, 1}, {5, 6, 0}};
        for (int[] d : due) {
            Due.is("may(" + d[0] + ", " + d[1] + ")", x.may(d[0], d[1]), d[2]);
            Due.is("may(" + d[1] + ", " + d[0] + ")", x.may(d[1], d[0]), d[2]);
        }
    }

    /** Promise 19. */
    private static void takes() {
        NoArmsCrossed x = new NoArmsCrossed();
        int[][] guests = {{0, 9}, {1, 9}, {2, 4}, {2, 6}, {5, 7}, {4, 9}, {2, 0}};
        for (int g = 0; g < guests.length; g++) {
            x.guest(guests[g][0], g, guests[g][1]);
        }
        int[][] due = {{0, 1, 1}, {0, 2, 5}, {2, 3, 7}, {3, 2, 7}, {0, 4, 8}, {4, 2, 8}, {5, 1, 1}, {6, 0, 1}, {2, 5, 5}};
        for (int[] d : due) {
            Due.fine(x, "takes(" + d[0] + ", " + d[1] + ")", () -> x.takes(d[0], d[1]), d[2]);
        }
        x.eyes(1);
        for (int[] d : due) {
            Due.fine(x, "takes with EYES", () -> x.takes(d[0], d[1]), 2 * d[2]);
        }
        Due.pairRefused(x, "takes", x::takes);
    }

    /** Promise 20. */
    private static void cross() {
        NoArmsCrossed x = Due.plain(8, 6);
        int[][] due = {{0, 2, 1, 3, 1}, {0, 1, 2, 3, 0}, {0, 3, 1, 2, 0}, {3, 0, 5, 1, 1}, {1, 4, 5, 0, 0},
            {4, 1, 2, 5, 1}, {5, 2, 1, 4, 1}, {0, 5, 1, 4, 0}};
        for (int[] d : due) {
            Due.fine(x, "cross", () -> x.cross(d[0], d[1], d[2], d[3]), d[4]);
            Due.is("cross the other way about", x.cross(d[3], d[2], d[1], d[0]), d[4]);
        }
        x.change(0, 1);
        Due.is("cross when SEATS are changed", x.cross(0, 2, 1, 3), 0);
        Due.is("cross when SEATS are changed", x.cross(0, 3, 1, 2), 1);
        Due.refused(x, "cross(0, 1, 2, 6)", () -> x.cross(0, 1, 2, 6), -1);
        Due.refused(x, "cross(-1, 1, 2, 3)", () -> x.cross(-1, 1, 2, 3), -1);
        Due.refused(x, "cross(0, 6, 0, 1)", () -> x.cross(0, 6, 0, 1), -1);
        Due.refused(x, "cross(0, 0, 9, 1)", () -> x.cross(0, 0, 9, 1), -1);
        int[][] not = {{0, 0, 1, 2}, {0, 1, 0, 2}, {0, 1, 2, 0}, {0, 1, 1, 2}, {0, 1, 2, 1}, {0, 1, 2, 2}};
        for (int[] n : not) {
            Due.refused(x, "cross of not four", () -> x.cross(n[0], n[1], n[2], n[3]), -6);
        }
    }

    /** 0, 2 against 1, 3 in their order, by the KINDS of the four. */
    private static void crossKinds() {
        int[][] due = {{0, 0, 0, 0, 1}, {6, 0, 0, 0, 0}, {0, 6, 0, 0, 0}, {0, 0, 6, 0, 0}, {0, 0, 0, 6, 0},
            {4, 0, 0, 0, 1}, {4, 0, 4, 0, 1}, {4, 4, 0, 0, 0}, {0, 4, 4, 0, 0}, {0, 0, 4, 4, 0}, {4, 0, 0, 4, 0},
            {0, 4, 0, 4, 1}, {5, 3, 2, 1, 1}};
        for (int[] d : due) {
            NoArmsCrossed x = new NoArmsCrossed();
            for (int g = 0; g < 4; g++) {
                x.guest(d[g], g, 9);
            }
            Due.is("cross(0, 2, 1, 3) of KINDS " + d[0] + d[1] + d[2] + d[3], x.cross(0, 2, 1, 3), d[4]);
        }
    }

    private static void list(NoArmsCrossed x, String call, java.util.function.IntUnaryOperator run, int... due) {
        Due.fine(x, call + "(NONE)", () -> run.applyAsInt(-1), due.length);
        for (int i = 0; i < due.length; i++) {
            int at = i;
            Due.fine(x, call + "(" + i + ")", () -> run.applyAsInt(at), due[i]);
        }
        Due.refused(x, call + " behind the last", () -> run.applyAsInt(due.length), -5);
        Due.refused(x, call + "(-2)", () -> run.applyAsInt(-2), -5);
        Due.refused(x, call + "(45)", () -> run.applyAsInt(45), -5);
        Due.refused(x, call + " far away", () -> run.applyAsInt(Integer.MAX_VALUE), -5);
    }

    /** Promise 21. */
    private static void wanted() {
        NoArmsCrossed x = Due.plain(8, 4);
        list(x, "wanted", x::wanted, 1, 2, 3, 102, 103, 203);
        x.bar(0, 2, true);
        x.had(3, 1, true);
        list(x, "wanted", x::wanted, 1, 3, 102, 203);
        x.guest(5, 7, 0);
        list(x, "wanted", x::wanted, 1, 3, 102, 203);
        NoArmsCrossed none = new NoArmsCrossed();
        list(none, "wanted", none::wanted);
        NoArmsCrossed full = Due.plain(12, 10);
        Due.is("WANTED of ten", full.wanted(-1), 45);
        Due.is("the last of ten", full.wanted(44), 809);
    }

    /** Promise 22. */
    private static void most() {
        NoArmsCrossed x = Due.plain(4, 4);
        list(x, "most", x::most, 1, 203);
        x.had(0, 1, true);
        list(x, "most", x::most, 3, 102);
        x.change(2, 3);
        list(x, "most", x::most, 2, 103);
        NoArmsCrossed all = Due.only(6, 3, 14, 25);
        list(all, "most", all::most, 3);
        NoArmsCrossed crossing = Due.only(6, 3, 104, 205);
        list(crossing, "most", crossing::most, 3);
        // the first PAIR leaves room for one other, two later ones and their third fit together
        NoArmsCrossed later = Due.only(6, 2, 5, 104, 203);
        list(later, "most", later::most, 5, 104, 203);
        later.goes(45);
        list(later, "most of nothing any more", later::most);
        NoArmsCrossed none = new NoArmsCrossed();
        list(none, "most", none::most);
        NoArmsCrossed full = Due.plain(12, 10);
        list(full, "most", full::most, 1, 203, 405, 607, 809);
        NoArmsCrossed host = new NoArmsCrossed();
        host.guest(6, 0, 0);
        host.guest(0, 1, 0);
        host.guest(0, 2, 0);
        host.guest(0, 3, 0);
        host.had(0, 1, true);
        list(host, "most, a HOST among the four", host::most, 2, 103);
    }

    /** Promise 23. */
    private static void ways() {
        NoArmsCrossed x = new NoArmsCrossed();
        Due.fine(x, "ways of none", x::ways, 1);
        int[][] due = {{1, 1}, {2, 1}, {3, 3}, {4, 2}, {5, 10}, {6, 5}, {8, 14}, {10, 42}};
        for (int[] d : due) {
            NoArmsCrossed y = Due.plain(12, d[0]);
            Due.fine(y, "ways of " + d[0], y::ways, d[1]);
        }
        // a HOST's table: none cross, so every matching of all
        NoArmsCrossed hosts = new NoArmsCrossed();
        hosts.seats(12);
        for (int g = 0; g < 10; g++) {
            hosts.guest(6, g, 0);
        }
        Due.fine(hosts, "ways of ten HOSTS", hosts::ways, 945);
        NoArmsCrossed one = Due.only(6, 3, 104, 205);
        Due.fine(one, "ways of three that all cross", one::ways, 3);
        one.bar(0, 3, true);
        one.goes(45);
        Due.fine(one, "ways when nothing is WANTED", one::ways, 1);
    }

    /** Promise 24. */
    private static void rounds() {
        NoArmsCrossed x = Due.plain(4, 4);
        Due.fine(x, "rounds of four", x::rounds, 4);
        Due.is("nothing is changed", x.wanted(-1), 6);
        Due.fine(x, "rounds of four again", x::rounds, 4);
        NoArmsCrossed none = new NoArmsCrossed();
        Due.fine(none, "rounds of none", none::rounds, 0);
        NoArmsCrossed greedy = Due.only(6, 2, 105, 203, 204, 304, 405);
        Due.fine(greedy, "rounds by always the most", greedy::rounds, 4);
        NoArmsCrossed crossing = Due.only(6, 3, 104, 205);
        Due.fine(crossing, "rounds of three that all cross", crossing::rounds, 3);
    }

    /** Promise 25. */
    private static void roundOf() {
        NoArmsCrossed x = Due.only(6, 2, 105, 203, 204, 304, 405);
        int[][] due = {{2, 304}, {105, 203}, {204}, {405}};
        for (int r = 0; r < due.length; r++) {
            int round = r;
            list(x, "roundOf(" + r + ")", i -> x.roundOf(round, i), due[r]);
        }
        Due.refused(x, "roundOf(4, NONE)", () -> x.roundOf(4, -1), -5);
        Due.refused(x, "roundOf(4, 0)", () -> x.roundOf(4, 0), -5);
        Due.refused(x, "roundOf(-1, NONE)", () -> x.roundOf(-1, -1), -5);
        Due.refused(x, "roundOf(45, 0)", () -> x.roundOf(45, 0), -5);
        Due.refused(x, "roundOf far away", () -> x.roundOf(Integer.MAX_VALUE, 0), -5);
        Due.refused(x, "roundOf(MIN, 0)", () -> x.roundOf(Integer.MIN_VALUE, 0), -5);
        Due.is("nothing is changed", x.wanted(-1), 6);
    }
}
