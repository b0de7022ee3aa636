import java.util.ArrayList;
import java.util.HashMap;
import java.util.List;
import java.util.Map;
import java.util.regex.Matcher;
import java.util.regex.Pattern;

/** The document once more, written apart from the class and as simply as can be: slow, by trying all. */
final class PlainModel {
    static final int NONE = -1;

    private static class Guest {
        final int kind;
        final int m;
        final int k;
        int seat;
        List<Integer> trace = new ArrayList<>();

        Guest(int kind, int m, int seat, int k) {
            this.kind = kind;
            this.m = m;
            this.seat = seat;
            this.k = k;
        }

        int clinks(int x) {
            trace.add(10);
            return x + m;
        }

        int waits(int x) {
            trace.add(11);
            return clinks(x) * 2;
        }

        int looks(int x) {
            trace.add(12);
            return waits(x) ^ clinks(x - k);
        }
    }

    private static class ShortGuest extends Guest {
        ShortGuest(int kind, int m, int seat, int k) {
            super(kind, m, seat, k);
        }

        @Override
        int clinks(int x) {
            trace.add(20);
            return super.clinks(x) + k;
        }
    }

    private static class SlowGuest extends Guest {
        SlowGuest(int kind, int m, int seat, int k) {
            super(kind, m, seat, k);
        }

        @Override
        int waits(int x) {
            trace.add(30);
            return super.waits(x) * 3;
        }
    }

    private static final class ShyGuest extends ShortGuest {
        ShyGuest(int kind, int m, int seat, int k) {
            super(kind, m, seat, k);
        }

        @Override
        int waits(int x) {
            trace.add(40);
            return super.waits(x + 1);
        }
    }

    private static class LeftyGuest extends Guest {
        LeftyGuest(int kind, int m, int seat, int k) {
            super(kind, m, seat, k);
        }

        @Override
        int looks(int x) {
            trace.add(50);
            return -super.looks(x);
        }

        @Override
        int clinks(int x) {
            trace.add(51);
            return super.clinks(x) - m;
        }
    }

    private static final class SoberGuest extends SlowGuest {
        SoberGuest(int kind, int m, int seat, int k) {
            super(kind, m, seat, k);
        }

        @Override
        int looks(int x) {
            trace.add(60);
            return super.looks(x) ^ 5;
        }
    }

    private static final class HostGuest extends LeftyGuest {
        HostGuest(int kind, int m, int seat, int k) {
            super(kind, m, seat, k);
        }

        @Override
        int clinks(int x) {
            trace.add(70);
            return super.clinks(x) * 2;
        }

        @Override
        int waits(int x) {
            trace.add(71);
            return super.waits(x - k);
        }
    }

    private static Guest made(int kind, int m, int seat, int k) {
        switch (kind) {
            case 1:
                return new ShortGuest(kind, m, seat, k);
            case 2:
                return new SlowGuest(kind, m, seat, k);
            case 3:
                return new ShyGuest(kind, m, seat, k);
            case 4:
                return new LeftyGuest(kind, m, seat, k);
            case 5:
                return new SoberGuest(kind, m, seat, k);
            case 6:
                return new HostGuest(kind, m, seat, k);
            default:
                return new Guest(kind, m, seat, k);
        }
    }

    private static final class State {
        int seats = 8;
        List<Guest> guests = new ArrayList<>();
        boolean[][] barred = new boolean[10][10];
        boolean[][] had = new boolean[10][10];
        int eyes = 0;
        int clinks = 0;
        int seconds = 0;
        int seed = 1;

        State twin() {
            State t = new State();
            t.seats = seats;
            for (Guest g : guests) {
                t.guests.add(made(g.kind, g.m, g.seat, g.k));
            }
            for (int i = 0; i < 10; i++) {
                t.barred[i] = barred[i].clone();
                t.had[i] = had[i].clone();
            }
            t.eyes = eyes;
            t.clinks = clinks;
            t.seconds = seconds;
            t.seed = seed;
            return t;
        }

        int n() {
            return guests.size();
        }

        boolean is(int g) {
            return g >= 0 && g < n();
        }

        boolean taken(int seat) {
            for (Guest g : guests) {
                if (g.seat == seat) {
                    return true;
                }
            }
            return false;
        }

        int far(int p, int q) {
            int up = 0;
            for (int s = guests.get(p).seat; s != guests.get(q).seat; s = (s + 1) % seats) {
                up++;
            }
            return Math.min(up, seats - up);
        }

        boolean may(int p, int q) {
            Guest a = guests.get(p);
            Guest b = guests.get(q);
            if (barred[p][q] || a instanceof SoberGuest || b instanceof SoberGuest) {
                return false;
            }
            if (a instanceof ShyGuest && b instanceof ShyGuest) {
                return false;
            }
            if (a instanceof ShortGuest && far(p, q) > a.k + 1) {
                return false;
            }
            return !(b instanceof ShortGuest && far(p, q) > b.k + 1);
        }

        int takes(int p, int q) {
            int more = 0;
            for (Guest g : List.of(guests.get(p), guests.get(q))) {
                if (g instanceof SlowGuest && g.k > more) {
                    more = g.k;
                }
            }
            return (1 + more) * (1 + eyes);
        }

        boolean cross(int p, int q, int r, int s) {
            boolean firstLefty = false;
            boolean secondLefty = false;
            for (int g : new int[] {p, q, r, s}) {
                if (guests.get(g) instanceof HostGuest) {
                    return false;
                }
            }
            for (int g : new int[] {p, q}) {
                firstLefty |= guests.get(g) instanceof LeftyGuest;
            }
            for (int g : new int[] {r, s}) {
                secondLefty |= guests.get(g) instanceof LeftyGuest;
            }
            if (firstLefty && secondLefty) {
                return false;
            }
            int met = 0;
            for (int at = guests.get(p).seat; at != guests.get(q).seat; at = (at + 1) % seats) {
                if (at == guests.get(r).seat || at == guests.get(s).seat) {
                    met++;
                }
            }
            return met == 1;
        }

        List<int[]> wanted() {
            List<int[]> pairs = new ArrayList<>();
            for (int p = 0; p < n(); p++) {
                for (int q = p + 1; q < n(); q++) {
                    if (may(p, q) && !had[p][q]) {
                        pairs.add(new int[] {p, q});
                    }
                }
            }
            return pairs;
        }

        int wants(int g) {
            int in = 0;
            for (int[] pair : wanted()) {
                in += pair[0] == g || pair[1] == g ? 1 : 0;
            }
            return in;
        }

        boolean together(int[] a, int[] b) {
            if (a[0] == b[0] || a[0] == b[1] || a[1] == b[0] || a[1] == b[1]) {
                return false;
            }
            return !cross(a[0], a[1], b[0], b[1]);
        }

        /** All sets AT ONCE of these PAIRS, the first (by the first PAIR at which two differ) ahead. */
        List<List<int[]>> sets(List<int[]> pairs) {
            boolean[][] fits = new boolean[pairs.size()][pairs.size()];
            for (int i = 0; i < pairs.size(); i++) {
                for (int j = 0; j < pairs.size(); j++) {
                    fits[i][j] = together(pairs.get(i), pairs.get(j));
                }
            }
            List<List<int[]>> all = new ArrayList<>();
            collect(pairs, fits, 0, new ArrayList<>(), all);
            return all;
        }

        private void collect(List<int[]> pairs, boolean[][] fits, int from, List<Integer> taken, List<List<int[]>> all) {
            List<int[]> set = new ArrayList<>();
            for (int i : taken) {
                set.add(pairs.get(i));
            }
            all.add(set);
            for (int i = from; i < pairs.size(); i++) {
                boolean ok = true;
                for (int j : taken) {
                    ok &= fits[i][j];
                }
                if (ok) {
                    taken.add(i);
                    collect(pairs, fits, i + 1, taken, all);
                    taken.remove(taken.size() - 1);
                }
            }
        }

        List<int[]> most(List<int[]> pairs) {
            List<int[]> best = new ArrayList<>();
            for (List<int[]> set : sets(pairs)) {
                if (set.size() > best.size() || (set.size() == best.size() && ahead(set, best))) {
                    best = set;
                }
            }
            return best;
        }

        private static boolean ahead(List<int[]> one, List<int[]> two) {
            for (int i = 0; i < one.size(); i++) {
                int a = code(one.get(i));
                int b = code(two.get(i));
                if (a != b) {
                    return a < b;
                }
            }
            return false;
        }

        List<List<int[]>> rounds() {
            List<List<int[]>> rounds = new ArrayList<>();
            List<int[]> left = wanted();
            while (!left.isEmpty()) {
                List<int[]> round = most(left);
                rounds.add(round);
                left.removeAll(round);
            }
            return rounds;
        }

        int longest(List<int[]> round) {
            int longest = 0;
            for (int[] pair : round) {
                longest = Math.max(longest, takes(pair[0], pair[1]));
            }
            return longest;
        }

        void hadNow(int p, int q) {
            had[p][q] = true;
            had[q][p] = true;
            clinks++;
        }

        void swap(int p, int q) {
            int seat = guests.get(p).seat;
            guests.get(p).seat = guests.get(q).seat;
            guests.get(q).seat = seat;
        }

        int draw(int n) {
            seed = seed * 1103515245 + 12345;
            return (int) (((seed & 0xFFFFFFFFL) >> 16) % n);
        }
    }

    private static final class Row {
        final int sort;
        final long[] cells;

        Row(int sort, int n) {
            this.sort = sort;
            cells = new long[n];
        }
    }

    private State state = new State();
    private State picture = null;
    private final Object[] shelves = new Object[8];
    private final Map<Integer, Integer> refusals = new HashMap<>();
    private int fault = NONE;
    private List<Integer> trace = new ArrayList<>();

    static int code(int[] pair) {
        return 100 * pair[0] + pair[1];
    }

    private int no(int n) {
        refusals.merge(n < -10 ? n + 10 : n, 1, Integer::sum);
        return n;
    }

    private boolean shelf(int s) {
        return s >= 0 && s <= 7;
    }

    int row(int s, int sort, int n) {
        if (!shelf(s)) {
            return no(-1);
        }
        if (n < 0) {
            return no(-4);
        }
        if (sort < 0 || sort > 3) {
            return no(-6);
        }
        if (n > 160) {
            return no(-7);
        }
        shelves[s] = new Row(sort, n);
        return 1;
    }

    private int rowNo(int s) {
        if (!shelf(s)) {
            return -1;
        }
        return shelves[s] == null ? -3 : shelves[s] instanceof Row ? 0 : -2;
    }

    private Row rowIn(int s) {
        return (Row) shelves[s];
    }

    private int intAt(int s, int i) {
        return (int) (rowIn(s).cells[i] & 0xFFFFFFFFL);
    }

    int set(int s, int i, long v) {
        if (rowNo(s) != 0) {
            return no(rowNo(s));
        }
        Row row = rowIn(s);
        if (i < 0 || i >= row.cells.length) {
            return no(-5);
        }
        int bits = 8 << row.sort;
        row.cells[i] = v << (64 - bits) >> (64 - bits);
        return 1;
    }

    int copy(int p, int q, int i, int j, int n) {
        if (!shelf(p) || !shelf(q)) {
            return no(-1);
        }
        if (rowNo(p) == -2 || rowNo(q) == -2) {
            return no(-2);
        }
        if (rowNo(p) == 0 && rowNo(q) == 0 && rowIn(p).sort != rowIn(q).sort) {
            return no(-2);
        }
        if (rowNo(p) == -3 || rowNo(q) == -3) {
            return no(-3);
        }
        if (n < 0) {
            return no(-4);
        }
        if (i < 0 || j < 0 || (long) i + n > rowIn(p).cells.length || (long) j + n > rowIn(q).cells.length) {
            return no(-5);
        }
        long[] ahead = rowIn(p).cells.clone();
        for (int k = 0; k < n; k++) {
            rowIn(q).cells[j + k] = ahead[i + k];
        }
        return 1;
    }

    long element(int s, int i) {
        if (rowNo(s) != 0 || i < 0 || i >= rowIn(s).cells.length) {
            return 0;
        }
        return rowIn(s).cells[i];
    }

    int show(int s, int guest) {
        if (!shelf(s) || (guest != NONE && !state.is(guest))) {
            return no(-1);
        }
        shelves[s] = guest == NONE ? null : (Object) guest;
        return guest == NONE ? 0 : 1;
    }

    int holds(int s) {
        if (!shelf(s) || shelves[s] == null) {
            return NONE;
        }
        return shelves[s] instanceof Row ? 100 + rowIn(s).sort : (Integer) shelves[s];
    }

    int says(int s, int kind) {
        if (!shelf(s) || kind < 0 || kind > 6) {
            return no(-1);
        }
        if (shelves[s] instanceof Row) {
            return no(-2);
        }
        if (shelves[s] == null) {
            return no(-3);
        }
        int g = (Integer) shelves[s];
        Guest who = state.guests.get(g);
        Class<?>[] kinds = {Guest.class, ShortGuest.class, SlowGuest.class, ShyGuest.class, LeftyGuest.class,
            SoberGuest.class, HostGuest.class};
        if (!kinds[kind].isInstance(who)) {
            return no(-2);
        }
        if (kind == 0) {
            return who.seat;
        }
        if (kind == 1 || kind == 3) {
            int others = 0;
            for (int o = 0; o < state.n(); o++) {
                others += o != g && state.may(g, o) ? 1 : 0;
            }
            return others;
        }
        return kind == 2 ? 1 + who.k : kind == 5 ? who.k : state.wants(g);
    }

    int seats(int n) {
        if (n < 3 || n > 12 || state.n() > 0) {
            return no(-6);
        }
        int was = state.seats;
        state.seats = n;
        return was;
    }

    int guest(int kind, int seat, int a) {
        if (kind < 0 || kind > 6) {
            return no(-1);
        }
        if (seat < 0 || seat >= state.seats || state.taken(seat) || a < 0 || a > 9) {
            return no(-6);
        }
        if (state.n() == 10) {
            return no(-7);
        }
        state.guests.add(made(kind, state.n(), seat, a));
        return state.n() - 1;
    }

    int guestOf(int guest, int what) {
        if (!state.is(guest) || what < 0 || what > 5) {
            return no(-5);
        }
        Guest who = state.guests.get(guest);
        if (what < 3) {
            return what == 0 ? who.kind : what == 1 ? who.seat : who.k;
        }
        int bits = 0;
        for (int o = 0; o < state.n(); o++) {
            boolean in = what == 3 ? state.had[guest][o] : what == 4 ? state.barred[guest][o]
                : o != guest && state.may(guest, o) && !state.had[guest][o];
            bits |= in ? 1 << o : 0;
        }
        return bits;
    }

    private int pairNo(int p, int q) {
        return !state.is(p) || !state.is(q) ? -1 : p == q ? -6 : 0;
    }

    private int mark(boolean[][] of, int p, int q, boolean is) {
        if (pairNo(p, q) != 0) {
            return no(pairNo(p, q));
        }
        boolean was = of[p][q];
        of[p][q] = is;
        of[q][p] = is;
        return was == is ? 0 : 1;
    }

    int bar(int p, int q, boolean is) {
        return mark(state.barred, p, q, is);
    }

    int had(int p, int q, boolean is) {
        return mark(state.had, p, q, is);
    }

    int eyes(int v) {
        if (v < 0 || v > 1) {
            return no(-6);
        }
        int was = state.eyes;
        state.eyes = v;
        return was;
    }

    int table(int s) {
        if (rowNo(s) != 0) {
            return no(rowNo(s));
        }
        StringBuilder text = new StringBuilder();
        for (int i = 0; i < rowIn(s).cells.length; i++) {
            int v = intAt(s, i);
            text.append(v >= 0 && v < 128 ? (char) v : '\u2022');
        }
        State draft = state.twin();
        int[] items = new int[1];
        fault = read(text.toString(), draft, items);
        if (fault != NONE) {
            return no(-6);
        }
        state = draft;
        return items[0];
    }

    private static final String[] WORDS = {"seats", "guest", "bar", "had", "eyes", "move"};
    private static final int[] NUMBERS = {1, 3, 2, 2, 1, 2};
    private static final Pattern NUMBER = Pattern.compile("^[0-9]{1,2}");

    private static int read(String text, State t, int[] items) {
        int at = 0;
        while (true) {
            int word = -1;
            int furthest = at;
            for (int w = 0; w < WORDS.length; w++) {
                int same = 0;
                while (same < WORDS[w].length() && at + same < text.length()
                    && text.charAt(at + same) == WORDS[w].charAt(same)) {
                    same++;
                }
                furthest = Math.max(furthest, at + same);
                word = same == WORDS[w].length() ? w : word;
            }
            if (word < 0) {
                return furthest;
            }
            boolean canBeTold = word == 0 ? t.n() == 0 : word != 1 || t.n() < 10;
            if (!canBeTold) {
                return at;
            }
            at = furthest;
            List<Integer> numbers = new ArrayList<>();
            for (int k = 0; k < NUMBERS[word]; k++) {
                if (at >= text.length() || text.charAt(at) != ' ') {
                    return at;
                }
                at++;
                Matcher m = NUMBER.matcher(text.substring(at));
                if (!m.find()) {
                    return at;
                }
                int v = Integer.parseInt(m.group());
                if (!mayBe(word, numbers, v, t)) {
                    return at;
                }
                numbers.add(v);
                at += m.end();
            }
            carryOut(word, numbers, t);
            items[0]++;
            if (at == text.length()) {
                return NONE;
            }
            if (text.charAt(at) != ';') {
                return at;
            }
            at++;
        }
    }

    private static boolean mayBe(int word, List<Integer> ahead, int v, State t) {
        String place = WORDS[word] + ahead.size();
        switch (place) {
            case "seats0":
                return v >= 3 && v <= 12;
            case "guest0":
                return v <= 6;
            case "guest1":
            case "move1":
                return v < t.seats && !t.taken(v);
            case "guest2":
                return v <= 9;
            case "eyes0":
                return v <= 1;
            case "bar1":
            case "had1":
                return t.is(v) && v != ahead.get(0);
            default:
                return t.is(v);
        }
    }

    private static void carryOut(int word, List<Integer> n, State t) {
        switch (word) {
            case 0:
                t.seats = n.get(0);
                break;
            case 1:
                t.guests.add(made(n.get(0), t.n(), n.get(1), n.get(2)));
                break;
            case 2:
                t.barred[n.get(0)][n.get(1)] = true;
                t.barred[n.get(1)][n.get(0)] = true;
                break;
            case 3:
                t.had[n.get(0)][n.get(1)] = true;
                t.had[n.get(1)][n.get(0)] = true;
                break;
            case 4:
                t.eyes = n.get(0);
                break;
            default:
                t.guests.get(n.get(0)).seat = n.get(1);
                break;
        }
    }

    int fault() {
        return fault;
    }

    int far(int p, int q) {
        return pairNo(p, q) != 0 ? no(pairNo(p, q)) : state.far(p, q);
    }

    int may(int p, int q) {
        return pairNo(p, q) != 0 ? no(pairNo(p, q)) : state.may(p, q) ? 1 : 0;
    }

    int takes(int p, int q) {
        return pairNo(p, q) != 0 ? no(pairNo(p, q)) : state.takes(p, q);
    }

    int cross(int p, int q, int r, int s) {
        if (!state.is(p) || !state.is(q) || !state.is(r) || !state.is(s)) {
            return no(-1);
        }
        if (p == q || p == r || p == s || q == r || q == s || r == s) {
            return no(-6);
        }
        return state.cross(p, q, r, s) ? 1 : 0;
    }

    private int toldOf(List<int[]> pairs, int i) {
        if (i == NONE) {
            return pairs.size();
        }
        return i < 0 || i >= pairs.size() ? no(-5) : code(pairs.get(i));
    }

    int wanted(int i) {
        return toldOf(state.wanted(), i);
    }

    int most(int i) {
        return toldOf(state.most(state.wanted()), i);
    }

    int ways() {
        int size = state.most(state.wanted()).size();
        int ways = 0;
        for (List<int[]> set : state.sets(state.wanted())) {
            ways += set.size() == size ? 1 : 0;
        }
        return ways;
    }

    int rounds() {
        return state.rounds().size();
    }

    int roundOf(int r, int i) {
        List<List<int[]>> rounds = state.rounds();
        return r < 0 || r >= rounds.size() ? no(-5) : toldOf(rounds.get(r), i);
    }

    int fewest() {
        List<int[]> pairs = state.wanted();
        if (pairs.size() > 10) {
            return no(-7);
        }
        for (int k = 0;; k++) {
            if (intoSets(pairs, 0, new ArrayList<>(), k)) {
                return k;
            }
        }
    }

    private boolean intoSets(List<int[]> pairs, int from, List<List<int[]>> sets, int limit) {
        if (from == pairs.size()) {
            return true;
        }
        int[] pair = pairs.get(from);
        for (int k = 0; k < sets.size(); k++) {
            List<int[]> set = sets.get(k);
            boolean ok = true;
            for (int[] other : set) {
                ok &= state.together(pair, other);
            }
            if (ok) {
                set.add(pair);
                if (intoSets(pairs, from + 1, sets, limit)) {
                    return true;
                }
                set.remove(pair);
            }
        }
        if (sets.size() < limit) {
            List<int[]> fresh = new ArrayList<>();
            fresh.add(pair);
            sets.add(fresh);
            if (intoSets(pairs, from + 1, sets, limit)) {
                return true;
            }
            sets.remove(sets.size() - 1);
        }
        return false;
    }

    int bound() {
        int bound = 0;
        for (int g = 0; g < state.n(); g++) {
            bound = Math.max(bound, state.wants(g));
        }
        return bound;
    }

    int lasts(int what) {
        if (what < 0 || what > 1) {
            return no(-5);
        }
        int seconds = 0;
        if (what == 0) {
            for (List<int[]> round : state.rounds()) {
                seconds += state.longest(round);
            }
        } else {
            for (int[] pair : state.wanted()) {
                seconds += state.takes(pair[0], pair[1]);
            }
        }
        return seconds;
    }

    int leftOut() {
        if (state.n() == 0) {
            return no(-5);
        }
        for (int g = 0;; g++) {
            if (state.wants(g) == bound()) {
                return g;
            }
        }
    }

    int never() {
        int pairs = 0;
        for (int p = 0; p < state.n(); p++) {
            for (int q = p + 1; q < state.n(); q++) {
                pairs += state.may(p, q) ? 0 : 1;
            }
        }
        return pairs;
    }

    int bestChange() {
        int most = state.most(state.wanted()).size();
        int best = NONE;
        for (int p = 0; p < state.n(); p++) {
            for (int q = p + 1; q < state.n(); q++) {
                State tried = state.twin();
                tried.swap(p, q);
                int size = tried.most(tried.wanted()).size();
                if (size > most) {
                    most = size;
                    best = 100 * p + q;
                }
            }
        }
        return best;
    }

    int freeSeat(int kind, int a) {
        if (kind < 0 || kind > 6) {
            return no(-1);
        }
        if (state.n() == state.seats) {
            return no(-5);
        }
        if (a < 0 || a > 9) {
            return no(-6);
        }
        if (state.n() == 10) {
            return no(-7);
        }
        int best = NONE;
        int most = -1;
        for (int seat = 0; seat < state.seats; seat++) {
            if (!state.taken(seat)) {
                State tried = state.twin();
                tried.guests.add(made(kind, state.n(), seat, a));
                if (tried.wants(state.n()) > most) {
                    most = tried.wants(state.n());
                    best = seat;
                }
            }
        }
        return best;
    }

    /** Where it is WRONG, how many are WANTED, how many rounds. */
    private int[] hear(int s, int n) {
        State then = state.twin();
        List<int[]> round = new ArrayList<>();
        int rounds = n == 0 ? 0 : 1;
        for (int i = 0; i < n; i++) {
            int v = intAt(s, i);
            if (v == -1) {
                rounds++;
                round.clear();
                continue;
            }
            int[] found = null;
            for (int[] pair : then.wanted()) {
                found = code(pair) == v ? pair : found;
            }
            if (found == null) {
                return new int[] {i, 0, 0};
            }
            for (int[] other : round) {
                if (!then.together(found, other)) {
                    return new int[] {i, 0, 0};
                }
            }
            round.add(found);
            then.hadNow(found[0], found[1]);
        }
        return new int[] {NONE, then.wanted().size(), rounds};
    }

    int judge(int s, int n) {
        if (rowNo(s) != 0) {
            return no(rowNo(s) - 10);
        }
        if (n < 0) {
            return no(-14);
        }
        if (rowIn(s).cells.length < n) {
            return no(-15);
        }
        return n > 60 ? no(-16) : hear(s, n)[0];
    }

    int behind(int s, int n, int what) {
        if (rowNo(s) != 0) {
            return no(rowNo(s));
        }
        if (n < 0) {
            return no(-4);
        }
        if (rowIn(s).cells.length < n || what < 0 || what > 1) {
            return no(-5);
        }
        if (n > 60 || hear(s, n)[0] != NONE) {
            return no(-6);
        }
        return hear(s, n)[1 + what];
    }

    int told(int s, int what) {
        if (rowNo(s) != 0) {
            return no(rowNo(s) - 10);
        }
        if (rowIn(s).cells.length < state.n() || what < 0 || what > 1) {
            return no(-15);
        }
        List<int[]> odd = new ArrayList<>();
        for (int g = 0; g < state.n(); g++) {
            for (int b = 0; b < 32; b++) {
                if ((intAt(s, g) & 1 << b) != 0 && (b == g || b >= state.n())) {
                    return no(-16);
                }
            }
        }
        for (int p = 0; p < state.n(); p++) {
            for (int q = p + 1; q < state.n(); q++) {
                if (((intAt(s, p) & 1 << q) != 0) ^ ((intAt(s, q) & 1 << p) != 0)) {
                    odd.add(new int[] {p, q});
                }
            }
        }
        if (what == 0) {
            return odd.size();
        }
        for (int g = 0; g < state.n() && !odd.isEmpty(); g++) {
            boolean inAll = true;
            for (int[] pair : odd) {
                inAll &= pair[0] == g || pair[1] == g;
            }
            if (inAll) {
                return g;
            }
        }
        return NONE;
    }

    int layers() {
        List<List<int[]>> layers = new ArrayList<>();
        for (int[] pair : state.wanted()) {
            List<int[]> into = null;
            for (List<int[]> layer : layers) {
                boolean ok = into == null;
                for (int[] other : layer) {
                    boolean four = pair[0] != other[0] && pair[0] != other[1] && pair[1] != other[0]
                        && pair[1] != other[1];
                    ok &= !four || !state.cross(pair[0], pair[1], other[0], other[1]);
                }
                into = ok ? layer : into;
            }
            if (into == null) {
                into = new ArrayList<>();
                layers.add(into);
            }
            into.add(pair);
        }
        return layers.size();
    }

    int clink(int p, int q) {
        if (pairNo(p, q) != 0) {
            return no(pairNo(p, q));
        }
        if (!state.may(p, q) || state.had[p][q]) {
            return no(-6);
        }
        state.seconds += state.takes(p, q);
        state.hadNow(p, q);
        return state.wanted().size();
    }

    int goes(int n) {
        if (n < 1 || n > 45) {
            return no(-6);
        }
        int clinks = 0;
        for (int r = 0; r < n && !state.wanted().isEmpty(); r++) {
            List<int[]> round = state.most(state.wanted());
            state.seconds += state.longest(round);
            for (int[] pair : round) {
                state.hadNow(pair[0], pair[1]);
                clinks++;
            }
        }
        return clinks;
    }

    int change(int p, int q) {
        if (pairNo(p, q) != 0) {
            return no(pairNo(p, q));
        }
        state.swap(p, q);
        return 1;
    }

    private void sweep() {
        for (int s = 0; s < 8; s++) {
            if (shelves[s] instanceof Integer && (Integer) shelves[s] >= state.n()) {
                shelves[s] = null;
            }
        }
    }

    int leaves() {
        if (state.n() == 0) {
            return no(-6);
        }
        int last = state.n() - 1;
        state.guests.remove(last);
        for (int g = 0; g < 10; g++) {
            state.barred[g][last] = false;
            state.barred[last][g] = false;
            state.had[g][last] = false;
            state.had[last][g] = false;
        }
        sweep();
        return last;
    }

    int feast(int n) {
        if (state.n() == 0) {
            return no(-5);
        }
        if (n < 1 || n > 60) {
            return no(-6);
        }
        int clinks = 0;
        for (int k = 0; k < n; k++) {
            int p = state.draw(state.n());
            int q = state.draw(state.n());
            if (p != q && state.may(p, q) && !state.had[p][q]) {
                state.seconds += state.takes(p, q);
                state.hadNow(p, q);
                clinks++;
            } else if (p != q) {
                state.swap(p, q);
            }
        }
        return clinks;
    }

    int seed(int v) {
        int was = state.seed;
        state.seed = v;
        return was;
    }

    int act(int guest, int act, int x) {
        trace = new ArrayList<>();
        if (!state.is(guest) || act < 0 || act > 2) {
            return 0;
        }
        Guest who = state.guests.get(guest);
        who.trace = trace;
        return act == 0 ? who.clinks(x) : act == 1 ? who.waits(x) : who.looks(x);
    }

    int trace(int i) {
        return i < 0 || i >= Math.min(20, trace.size()) ? NONE : trace.get(i);
    }

    int image() {
        picture = state.twin();
        return state.n();
    }

    int restore() {
        if (picture == null) {
            return no(-6);
        }
        state = picture.twin();
        sweep();
        return state.n();
    }

    int status(int what) {
        if (what >= 11 && what <= 17) {
            return refusals.getOrDefault(10 - what, 0);
        }
        int had = 0;
        for (int p = 0; p < 10; p++) {
            for (int q = p + 1; q < 10; q++) {
                had += state.had[p][q] ? 1 : 0;
            }
        }
        int[] all = {state.n(), state.seats, had, state.clinks, state.seconds, state.eyes, state.seed, trace.size()};
        return what < 0 || what > 7 ? NONE : all[what];
    }
}
