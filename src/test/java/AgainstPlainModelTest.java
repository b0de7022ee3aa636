import java.util.Random;

/** Random runs of 512 calls: each answer of the class against that of PlainModel, seeds fixed. */
public final class AgainstPlainModelTest {
    private static NoArmsCrossed x;
    private static PlainModel y;
    private static Random random;
    private static int calls;
    private static String run;
    /** The table's size as the run wants it, so that small and full tables both come. */
    private static int wantedGuests;

    public static void main(String[] args) {
        int runs = args.length > 0 ? Integer.parseInt(args[0]) : 160;
        int first = args.length > 1 ? Integer.parseInt(args[1]) : 1;
        for (int seed = first; seed < first + runs; seed++) {
            random = new Random(seed);
            x = new NoArmsCrossed();
            y = new PlainModel();
            calls = 0;
            run = "run " + seed + " ";
            wantedGuests = random.nextInt(11);
            if (random.nextInt(3) > 0) {
                seatAll();
            }
            while (calls < 512) {
                step();
            }
        }
        Due.end("AgainstPlainModelTest");
    }

    /** What a call behind the 512th answers is free. */
    private static void due(String call, long got, long want) {
        calls++;
        if (calls <= 512) {
            Due.is(run + calls + ": " + call, got, want);
        }
    }

    private static int any(int n) {
        return random.nextInt(n);
    }

    /** Mostly 0 to n less 1, now and then just outside or far away. */
    private static int near(int n) {
        switch (any(24)) {
            case 0:
                return -1;
            case 1:
                return n;
            case 2:
                return any(2) == 0 ? Integer.MIN_VALUE : Integer.MAX_VALUE;
            default:
                return any(Math.max(1, n));
        }
    }

    private static int who() {
        return near(y.status(0));
    }

    private static void seatAll() {
        int seats = Math.max(3, Math.min(12, wantedGuests + any(4)));
        due("seats", x.seats(seats), y.seats(seats));
        int plain = any(3);
        while (y.status(0) < Math.min(wantedGuests, seats)) {
            int kind = plain == 0 ? 0 : plain == 1 ? any(2) * 4 : any(7);
            int a = any(10);
            int seat = any(seats);
            due("guest", x.guest(kind, seat, a), y.guest(kind, seat, a));
        }
    }

    private static void step() {
        int what = any(100);
        if (what < 16) {
            shelfCall();
        } else if (what < 40) {
            tableCall();
        } else if (what < 62) {
            clinkCall();
        } else if (what < 78) {
            outcomeCall();
        } else if (what < 82) {
            tell();
        } else if (what < 84) {
            readTable();
        } else {
            truthCall();
        }
        statuses();
    }

    private static void statuses() {
        int i = any(4) == 0 ? any(8) : 11 + any(7);
        due("status " + i, x.status(i), y.status(i));
        if (any(30) == 0) {
            int other = near(20);
            due("status " + other, x.status(other), y.status(other));
        }
    }

    private static void shelfCall() {
        int s = near(8);
        int t = near(8);
        switch (any(7)) {
            case 0: {
                int sort = any(12) == 0 ? near(4) : any(4);
                int n = any(8) == 0 ? 155 + any(10) : near(14);
                due("row", x.row(s, sort, n), y.row(s, sort, n));
                break;
            }
            case 1: {
                int i = near(14);
                long v = any(2) == 0 ? any(1100) - 1 : random.nextLong();
                due("set", x.set(s, i, v), y.set(s, i, v));
                break;
            }
            case 2: {
                int i = near(6);
                int j = near(6);
                int n = near(7);
                due("copy", x.copy(s, t, i, j, n), y.copy(s, t, i, j, n));
                break;
            }
            case 3: {
                int i = near(14);
                due("element", x.element(s, i), y.element(s, i));
                break;
            }
            case 4: {
                int g = who();
                due("show", x.show(s, g), y.show(s, g));
                break;
            }
            case 5:
                due("holds", x.holds(s), y.holds(s));
                break;
            default: {
                int kind = near(7);
                due("says", x.says(s, kind), y.says(s, kind));
                break;
            }
        }
    }

    private static void tableCall() {
        int p = who();
        int q = who();
        boolean is = any(3) > 0;
        switch (any(9)) {
            case 0: {
                int n = near(14);
                due("seats", x.seats(n), y.seats(n));
                break;
            }
            case 1:
            case 2: {
                int kind = near(7);
                int seat = near(y.status(1));
                int a = near(10);
                due("guest", x.guest(kind, seat, a), y.guest(kind, seat, a));
                break;
            }
            case 3:
            case 4: {
                int what = near(6);
                due("guestOf " + p + " " + what, x.guestOf(p, what), y.guestOf(p, what));
                break;
            }
            case 5:
                due("bar", x.bar(p, q, is), y.bar(p, q, is));
                break;
            case 6:
                due("had", x.had(p, q, is), y.had(p, q, is));
                break;
            case 7: {
                int v = near(2);
                due("eyes", x.eyes(v), y.eyes(v));
                break;
            }
            default: {
                int s = near(8);
                due("table", x.table(s), y.table(s));
                due("fault", x.fault(), y.fault());
                break;
            }
        }
    }

    private static void clinkCall() {
        int p = who();
        int q = who();
        int i = any(4) == 0 ? near(45) : any(6) - 1;
        switch (any(10)) {
            case 0:
                due("far", x.far(p, q), y.far(p, q));
                break;
            case 1:
                due("may", x.may(p, q), y.may(p, q));
                break;
            case 2:
                due("takes", x.takes(p, q), y.takes(p, q));
                break;
            case 3:
            case 4: {
                int r = who();
                int s = who();
                due("cross", x.cross(p, q, r, s), y.cross(p, q, r, s));
                break;
            }
            case 5:
                due("wanted " + i, x.wanted(i), y.wanted(i));
                break;
            case 6:
                due("most " + i, x.most(i), y.most(i));
                break;
            case 7:
                due("ways", x.ways(), y.ways());
                break;
            case 8:
                due("rounds", x.rounds(), y.rounds());
                break;
            default: {
                int r = near(6);
                due("roundOf " + r + " " + i, x.roundOf(r, i), y.roundOf(r, i));
                break;
            }
        }
    }

    private static void outcomeCall() {
        int what = near(2);
        switch (any(10)) {
            case 0:
            case 1:
                due("fewest", x.fewest(), y.fewest());
                break;
            case 2:
                due("bound", x.bound(), y.bound());
                break;
            case 3:
                due("lasts", x.lasts(what), y.lasts(what));
                break;
            case 4:
                due("leftOut", x.leftOut(), y.leftOut());
                break;
            case 5:
                due("never", x.never(), y.never());
                break;
            case 6:
                if (any(3) == 0) {
                    due("bestChange", x.bestChange(), y.bestChange());
                }
                break;
            case 7: {
                int kind = near(7);
                int a = near(10);
                due("freeSeat", x.freeSeat(kind, a), y.freeSeat(kind, a));
                break;
            }
            case 8: {
                int s = near(8);
                int n = near(8);
                due("judge", x.judge(s, n), y.judge(s, n));
                due("behind", x.behind(s, n, what), y.behind(s, n, what));
                due("told", x.told(s, what), y.told(s, what));
                break;
            }
            default:
                due("layers", x.layers(), y.layers());
                break;
        }
    }

    private static void put(int s, int sort, long[] values, int n) {
        due("row", x.row(s, sort, n), y.row(s, sort, n));
        for (int i = 0; i < n; i++) {
            due("set", x.set(s, i, values[i]), y.set(s, i, values[i]));
        }
    }

    /** An evening that goes well for a while, or what the GUESTS say of it. */
    private static void tell() {
        int s = any(8);
        long[] values = new long[200];
        int n = 0;
        if (any(2) == 0) {
            for (int r = 0; r < Math.min(3, y.rounds()); r++) {
                for (int i = 0; i < y.roundOf(r, NoArmsCrossed.NONE); i++) {
                    values[n++] = y.roundOf(r, i);
                }
                values[n++] = -1;
            }
            if (n > 0 && any(2) == 0) {
                values[any(n)] = any(3) == 0 ? -1 : 100 * any(10) + any(10);
            }
            if (any(4) == 0) {
                values[n++] = 0x100000000L * any(3) + 100 * any(10) + any(10);
            }
            put(s, 1 + any(3), values, n);
            int told = any(3) == 0 ? near(n + 1) : n;
            int what = near(2);
            due("judge", x.judge(s, told), y.judge(s, told));
            due("behind", x.behind(s, told, what), y.behind(s, told, what));
        } else {
            for (int g = 0; g < y.status(0); g++) {
                values[n++] = y.guestOf(g, 3);
            }
            for (int k = any(3); k > 0 && n > 0; k--) {
                values[any(n)] ^= 1L << any(Math.max(1, any(3) == 0 ? 12 : n));
            }
            put(s, any(4), values, Math.max(0, n - (any(8) == 0 ? 1 : 0)));
            due("told", x.told(s, 0), y.told(s, 0));
            due("told", x.told(s, 1), y.told(s, 1));
        }
    }

    private static String number(int n) {
        int v = any(12) == 0 ? any(100) : any(Math.max(1, n));
        return (any(8) == 0 && v < 10 ? "0" : "") + v;
    }

    private static String item() {
        int n = y.status(0) + 1;
        switch (any(8)) {
            case 0:
                return "seats " + number(13);
            case 1:
            case 2:
                return "guest " + number(7) + " " + number(y.status(1)) + " " + number(10);
            case 3:
            case 4:
                return "bar " + number(n) + " " + number(n);
            case 5:
                return "had " + number(n) + " " + number(n);
            case 6:
                return "eyes " + number(2);
            default:
                return "move " + number(n) + " " + number(y.status(1));
        }
    }

    private static void readTable() {
        StringBuilder text = new StringBuilder(item());
        for (int k = any(4); k > 0; k--) {
            text.append(any(30) == 0 ? "" : ";").append(item());
        }
        if (any(4) == 0) {
            int at = any(text.length());
            char c = "0123456789 ;abdeghmrstuvx".charAt(any(25));
            if (any(3) == 0) {
                text.deleteCharAt(at);
            } else if (any(2) == 0) {
                text.insert(at, c);
            } else {
                text.setCharAt(at, c);
            }
        }
        if (any(4) == 0) {
            int end = any(2) == 0 ? text.length() : text.lastIndexOf(";") + 1 + 6;
            text.setLength(any(Math.min(end, text.length()) + 1));
        }
        long[] letters = new long[200];
        for (int i = 0; i < text.length() && i < 160; i++) {
            letters[i] = text.charAt(i) + (any(400) == 0 ? 256 * any(3) : 0);
        }
        int s = any(8);
        put(s, any(4), letters, Math.min(160, text.length()));
        due("table " + text, x.table(s), y.table(s));
        due("fault " + text, x.fault(), y.fault());
    }

    private static void truthCall() {
        int p = who();
        int q = who();
        switch (any(16)) {
            case 0:
            case 1:
            case 2:
                due("clink", x.clink(p, q), y.clink(p, q));
                break;
            case 3: {
                int n = near(46);
                n = any(2) == 0 ? 1 : n;
                due("goes", x.goes(n), y.goes(n));
                break;
            }
            case 4:
            case 5:
                due("change", x.change(p, q), y.change(p, q));
                break;
            case 6:
                if (y.status(0) >= wantedGuests || any(4) == 0) {
                    due("leaves", x.leaves(), y.leaves());
                }
                break;
            case 7: {
                int n = any(3) == 0 ? near(61) : 1 + any(4);
                due("feast", x.feast(n), y.feast(n));
                break;
            }
            case 8: {
                int v = any(2) == 0 ? any(10) : random.nextInt();
                due("seed", x.seed(v), y.seed(v));
                break;
            }
            case 9:
            case 10:
            case 11: {
                int act = near(3);
                int v = any(2) == 0 ? any(10) : random.nextInt();
                due("act", x.act(p, act, v), y.act(p, act, v));
                for (int i = -1; i < 12; i++) {
                    due("trace " + i, x.trace(i), y.trace(i));
                }
                int far = near(21);
                due("trace " + far, x.trace(far), y.trace(far));
                break;
            }
            case 12:
            case 13:
                due("image", x.image(), y.image());
                break;
            case 14:
                due("restore", x.restore(), y.restore());
                break;
            default:
                forget();
                break;
        }
    }

    /** Clinks taken back, so that there is something WANTED again. */
    private static void forget() {
        for (int k = 0; k < 6; k++) {
            int p = who();
            int q = who();
            due("had", x.had(p, q, false), y.had(p, q, false));
        }
    }
}
