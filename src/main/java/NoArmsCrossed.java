/**
 * Guests at a round table, each to clink with each, never across another's arm.
 *
 * <p>Words in capitals in the comments are those of the document. All rows are made with the object
 * and used again: no call makes anything new.
 */
public final class NoArmsCrossed {
    public static final int NONE = -1;

    // REFUSALS, and that there is none
    private static final int FINE = 0;
    private static final int NOBODY = -1;
    private static final int OTHER = -2;
    private static final int NOTHING = -3;
    private static final int BELOW = -4;
    private static final int BEYOND = -5;
    private static final int WRONG = -6;
    private static final int ROOM = -7;
    private static final int REFUSALS = 7;

    // KINDS
    private static final int GUEST = 0;
    private static final int SHORT = 1;
    private static final int SLOW = 2;
    private static final int SHY = 3;
    private static final int LEFTY = 4;
    private static final int SOBER = 5;
    private static final int HOST = 6;
    private static final int KINDS = 7;

    /** Of each KIND the bits of itself and of all that it stands under. */
    private static final int[] LINES = {0b1, 0b11, 0b101, 0b1011, 0b10001, 0b100101, 0b1010001};

    // SORTS of ROWS
    private static final int BYTES = 0;
    private static final int SHORTS = 1;
    private static final int INTS = 2;
    private static final int LONGS = 3;

    private static final int GUESTS_MOST = 10;
    private static final int PAIRS_MOST = 45;
    private static final int AT_ONCE_MOST = 5;
    private static final int SEATS_LEAST = 3;
    private static final int SEATS_MOST = 12;
    private static final int SEATS_FIRST = 8;
    private static final int AMOUNT_MOST = 9;
    private static final int SHELVES = 8;
    private static final int ELEMENTS_MOST = 160;
    private static final int ROW_HELD = 100;
    private static final int EVENING_MOST = 60;
    private static final int FEAST_MOST = 60;
    private static final int FEWEST_MOST = 10;
    private static final int TRACE_MOST = 20;
    /** judge() and told() answer REFUSALS this much lower: -1 and -6 are answers of theirs. */
    private static final int LOWER = 10;

    private final Table now = new Table();
    /** For what is tried out, so that what stands is left alone. */
    private final Table draft = new Table();
    private final Table picture = new Table();
    private boolean pictured = false;
    private final Shelf[] shelves = new Shelf[SHELVES];
    private final Plan plan = new Plan();
    private final Evening evening = new Evening();
    private final Reader reader = new Reader();
    private final Acts acts = new Acts();
    private final int[] refused = new int[REFUSALS + 1];
    private int latestFault = NONE;

    public NoArmsCrossed() {
        for (int s = 0; s < SHELVES; s++) {
            shelves[s] = new Shelf();
        }
    }

    // ---- SHELVES

    public int row(int s, int sort, int n) {
        if (!isShelf(s)) {
            return refuse(NOBODY);
        }
        if (n < 0) {
            return refuse(BELOW);
        }
        if (sort < BYTES || sort > LONGS) {
            return refuse(WRONG);
        }
        if (n > ELEMENTS_MOST) {
            return refuse(ROOM);
        }
        shelves[s].become(sort, n);
        return 1;
    }

    public int set(int s, int i, long v) {
        int no = refusalOfRow(s);
        if (no != FINE) {
            return refuse(no);
        }
        if (!shelves[s].has(i)) {
            return refuse(BEYOND);
        }
        shelves[s].put(i, v);
        return 1;
    }

    public int copy(int p, int q, int i, int j, int n) {
        if (!isShelf(p) || !isShelf(q)) {
            return refuse(NOBODY);
        }
        Shelf from = shelves[p];
        Shelf to = shelves[q];
        if (from.holdsGuest() || to.holdsGuest()) {
            return refuse(OTHER);
        }
        if (from.isEmpty() || to.isEmpty()) {
            return refuse(NOTHING);
        }
        if (from.held != to.held) {
            return refuse(OTHER);
        }
        if (n < 0) {
            return refuse(BELOW);
        }
        if (!from.hasPart(i, n) || !to.hasPart(j, n)) {
            return refuse(BEYOND);
        }
        System.arraycopy(from.elements, i, to.elements, j, n);
        return 1;
    }

    public long element(int s, int i) {
        if (!isShelf(s) || !shelves[s].has(i)) {
            return 0;
        }
        return shelves[s].elements[i];
    }

    public int show(int s, int guest) {
        if (!isShelf(s)) {
            return refuse(NOBODY);
        }
        if (guest == NONE) {
            shelves[s].hold(NONE);
            return 0;
        }
        if (!now.exists(guest)) {
            return refuse(NOBODY);
        }
        shelves[s].hold(guest);
        return 1;
    }

    public int holds(int s) {
        return isShelf(s) ? shelves[s].held : NONE;
    }

    public int says(int s, int kind) {
        if (!isShelf(s) || !isKind(kind)) {
            return refuse(NOBODY);
        }
        if (shelves[s].isEmpty()) {
            return refuse(NOTHING);
        }
        int guest = shelves[s].held;
        if (!now.exists(guest) || !now.isOf(guest, kind)) {
            return refuse(OTHER);
        }
        return wordsOf(guest, kind);
    }

    // ---- THE TABLE

    public int seats(int n) {
        if (n < SEATS_LEAST || n > SEATS_MOST || now.count > 0) {
            return refuse(WRONG);
        }
        int before = now.size;
        now.size = n;
        return before;
    }

    public int guest(int kind, int seat, int a) {
        if (!isKind(kind)) {
            return refuse(NOBODY);
        }
        if (!now.isFree(seat) || !isAmount(a)) {
            return refuse(WRONG);
        }
        if (now.isFull()) {
            return refuse(ROOM);
        }
        now.add(kind, seat, a);
        return now.count - 1;
    }

    public int guestOf(int guest, int what) {
        if (!now.exists(guest)) {
            return refuse(BEYOND);
        }
        switch (what) {
            case 0:
                return now.kinds[guest];
            case 1:
                return now.places[guest];
            case 2:
                return now.amounts[guest];
            case 3:
                return now.hadBits[guest];
            case 4:
                return now.barredBits[guest];
            case 5:
                return now.lacksOf(guest);
            default:
                return refuse(BEYOND);
        }
    }

    public int bar(int guest, int other, boolean is) {
        int no = refusalOfPair(guest, other);
        if (no != FINE) {
            return refuse(no);
        }
        return now.mark(now.barredBits, guest, other, is) ? 1 : 0;
    }

    public int had(int guest, int other, boolean is) {
        int no = refusalOfPair(guest, other);
        if (no != FINE) {
            return refuse(no);
        }
        return now.mark(now.hadBits, guest, other, is) ? 1 : 0;
    }

    public int eyes(int v) {
        if (v != 0 && v != 1) {
            return refuse(WRONG);
        }
        int before = now.eyeing;
        now.eyeing = v;
        return before;
    }

    public int table(int s) {
        int no = refusalOfRow(s);
        if (no != FINE) {
            return refuse(no);
        }
        draft.takeOver(now);
        int items = reader.read(shelves[s], draft);
        if (items == NONE) {
            latestFault = reader.at;
            return refuse(WRONG);
        }
        latestFault = NONE;
        now.takeOver(draft);
        return items;
    }

    public int fault() {
        return latestFault;
    }

    // ---- CLINKS

    public int far(int guest, int other) {
        int no = refusalOfPair(guest, other);
        return no != FINE ? refuse(no) : now.distance(guest, other);
    }

    public int may(int guest, int other) {
        int no = refusalOfPair(guest, other);
        if (no != FINE) {
            return refuse(no);
        }
        return now.mayClink(guest, other) ? 1 : 0;
    }

    public int takes(int guest, int other) {
        int no = refusalOfPair(guest, other);
        return no != FINE ? refuse(no) : now.secondsOf(guest, other);
    }

    public int cross(int guest, int other, int third, int fourth) {
        if (!now.exists(guest) || !now.exists(other) || !now.exists(third) || !now.exists(fourth)) {
            return refuse(NOBODY);
        }
        if (Integer.bitCount(bit(guest) | bit(other) | bit(third) | bit(fourth)) != 4) {
            return refuse(WRONG);
        }
        return now.armsCross(guest, other, third, fourth) ? 1 : 0;
    }

    public int wanted(int i) {
        plan.draw(now);
        if (i == NONE) {
            return plan.count;
        }
        return i >= 0 && i < plan.count ? plan.codeOf(i) : refuse(BEYOND);
    }

    public int most(int i) {
        plan.draw(now);
        return pairOrCount(plan.largest(plan.all(), 0), i);
    }

    public int ways() {
        plan.draw(now);
        return plan.countLargest();
    }

    public int rounds() {
        plan.draw(now);
        return plan.makeRounds(PAIRS_MOST);
    }

    public int roundOf(int r, int i) {
        if (r < 0 || r >= PAIRS_MOST) {
            return refuse(BEYOND);
        }
        plan.draw(now);
        if (plan.makeRounds(r + 1) <= r) {
            return refuse(BEYOND);
        }
        return pairOrCount(plan.groups[r], i);
    }

    // ---- WHAT COMES OF IT

    public int fewest() {
        plan.draw(now);
        return plan.count > FEWEST_MOST ? refuse(ROOM) : plan.fewestSets();
    }

    public int bound() {
        int greatest = 0;
        for (int g = 0; g < now.count; g++) {
            greatest = Math.max(greatest, now.wantsOf(g));
        }
        return greatest;
    }

    public int lasts(int what) {
        if (what != 0 && what != 1) {
            return refuse(BEYOND);
        }
        plan.draw(now);
        return what == 0 ? plan.secondsInRounds() : plan.secondsAlone();
    }

    public int leftOut() {
        if (now.count == 0) {
            return refuse(BEYOND);
        }
        int first = 0;
        for (int g = 1; g < now.count; g++) {
            if (now.wantsOf(g) > now.wantsOf(first)) {
                first = g;
            }
        }
        return first;
    }

    public int never() {
        int pairs = 0;
        for (int p = 0; p < now.count; p++) {
            for (int q = p + 1; q < now.count; q++) {
                pairs += now.mayClink(p, q) ? 0 : 1;
            }
        }
        return pairs;
    }

    public int bestChange() {
        plan.draw(now);
        plan.largest(plan.all(), 0);
        int most = plan.mostSize;
        int best = NONE;
        draft.takeOver(now);
        for (int p = 0; p < draft.count; p++) {
            for (int q = p + 1; q < draft.count; q++) {
                draft.swap(p, q);
                plan.draw(draft);
                plan.largest(plan.all(), most);
                draft.swap(p, q);
                if (plan.mostSize > most) {
                    most = plan.mostSize;
                    best = codeOfPair(p, q);
                }
            }
        }
        return best;
    }

    public int freeSeat(int kind, int a) {
        if (!isKind(kind)) {
            return refuse(NOBODY);
        }
        if (now.freeSeatBits() == 0) {
            return refuse(BEYOND);
        }
        if (!isAmount(a)) {
            return refuse(WRONG);
        }
        if (now.isFull()) {
            return refuse(ROOM);
        }
        return bestFreeSeat(kind, a);
    }

    public int judge(int s, int n) {
        int no = refusalOfEvening(s, n);
        if (no != FINE) {
            return refuseLower(no);
        }
        plan.draw(now);
        return evening.firstWrong(shelves[s], n, plan);
    }

    public int behind(int s, int n, int what) {
        int no = refusalOfEvening(s, n);
        if ((no == FINE || no == WRONG) && what != 0 && what != 1) {
            no = BEYOND;
        }
        if (no != FINE) {
            return refuse(no);
        }
        plan.draw(now);
        if (evening.firstWrong(shelves[s], n, plan) != NONE) {
            return refuse(WRONG);
        }
        return what == 0 ? Long.bitCount(evening.wantedBehind) : evening.roundCount;
    }

    public int told(int s, int what) {
        int no = refusalOfRow(s);
        if (no != FINE) {
            return refuseLower(no);
        }
        Shelf row = shelves[s];
        if (row.length < now.count || (what != 0 && what != 1)) {
            return refuseLower(BEYOND);
        }
        for (int g = 0; g < now.count; g++) {
            if ((row.number(g) & ~now.othersOf(g)) != 0) {
                return refuseLower(WRONG);
            }
        }
        return what == 0 ? disputedBut(row, NONE) : liar(row);
    }

    public int layers() {
        plan.draw(now);
        return plan.makeLayers();
    }

    // ---- IN TRUTH

    public int clink(int guest, int other) {
        int no = refusalOfPair(guest, other);
        if (no != FINE) {
            return refuse(no);
        }
        if (!now.isWanted(guest, other)) {
            return refuse(WRONG);
        }
        now.clinkAlone(guest, other);
        return now.wantedPairs();
    }

    public int goes(int n) {
        if (n < 1 || n > PAIRS_MOST) {
            return refuse(WRONG);
        }
        plan.draw(now);
        int rounds = plan.makeRounds(n);
        int clinks = 0;
        for (int r = 0; r < rounds; r++) {
            clinks += clinkTogether(plan.groups[r]);
        }
        return clinks;
    }

    public int change(int guest, int other) {
        int no = refusalOfPair(guest, other);
        if (no != FINE) {
            return refuse(no);
        }
        now.swap(guest, other);
        return 1;
    }

    public int leaves() {
        if (now.count == 0) {
            return refuse(WRONG);
        }
        now.removeLast();
        emptyShelvesOfGone();
        return now.count;
    }

    public int feast(int n) {
        if (now.count == 0) {
            return refuse(BEYOND);
        }
        if (n < 1 || n > FEAST_MOST) {
            return refuse(WRONG);
        }
        int before = now.clinks;
        for (int k = 0; k < n; k++) {
            feastOnce();
        }
        return now.clinks - before;
    }

    public int seed(int v) {
        int before = now.seeded;
        now.seeded = v;
        return before;
    }

    public int act(int guest, int act, int x) {
        acts.forget();
        if (!now.exists(guest)) {
            return 0;
        }
        return acts.run(now.kinds[guest], act, guest, now.amounts[guest], x);
    }

    public int trace(int i) {
        return acts.bodyAt(i);
    }

    public int image() {
        picture.takeOver(now);
        pictured = true;
        return now.count;
    }

    public int restore() {
        if (!pictured) {
            return refuse(WRONG);
        }
        now.takeOver(picture);
        emptyShelvesOfGone();
        return now.count;
    }

    public int status(int what) {
        switch (what) {
            case 0:
                return now.count;
            case 1:
                return now.size;
            case 2:
                return now.hadPairs();
            case 3:
                return now.clinks;
            case 4:
                return now.seconds;
            case 5:
                return now.eyeing;
            case 6:
                return now.seeded;
            case 7:
                return acts.ran;
            default:
                return what >= 11 && what <= 10 + REFUSALS ? refused[what - 10] : NONE;
        }
    }

    // ---- what the calls share

    private int refuse(int no) {
        if (no <= NOBODY && no >= ROOM) {
            refused[-no]++;
        }
        return no;
    }

    private int refuseLower(int no) {
        return refuse(no) - LOWER;
    }

    private static boolean isShelf(int s) {
        return s >= 0 && s < SHELVES;
    }

    private static boolean isKind(int kind) {
        return kind >= 0 && kind < KINDS;
    }

    private static boolean isAmount(int a) {
        return a >= 0 && a <= AMOUNT_MOST;
    }

    private static int bit(int i) {
        return 1 << i;
    }

    private static int codeOfPair(int lesser, int other) {
        return 100 * lesser + other;
    }

    private int refusalOfRow(int s) {
        if (!isShelf(s)) {
            return NOBODY;
        }
        if (shelves[s].holdsGuest()) {
            return OTHER;
        }
        return shelves[s].isEmpty() ? NOTHING : FINE;
    }

    private int refusalOfPair(int guest, int other) {
        if (!now.exists(guest) || !now.exists(other)) {
            return NOBODY;
        }
        return guest == other ? WRONG : FINE;
    }

    private int refusalOfEvening(int s, int n) {
        int no = refusalOfRow(s);
        if (no != FINE) {
            return no;
        }
        if (n < 0) {
            return BELOW;
        }
        if (n > shelves[s].length) {
            return BEYOND;
        }
        return n > EVENING_MOST ? WRONG : FINE;
    }

    private int wordsOf(int guest, int kind) {
        switch (kind) {
            case GUEST:
                return now.places[guest];
            case SHORT:
            case SHY:
                return now.mayOf(guest);
            case SLOW:
                return 1 + now.slownessOf(guest);
            case LEFTY:
            case HOST:
                return now.wantsOf(guest);
            default:
                return now.amounts[guest];
        }
    }

    private int pairOrCount(long pairs, int i) {
        if (i == NONE) {
            return Long.bitCount(pairs);
        }
        int p = plan.pairAt(pairs, i);
        return p == NONE ? refuse(BEYOND) : plan.codeOf(p);
    }

    private int bestFreeSeat(int kind, int a) {
        int best = NONE;
        int most = NONE;
        for (int seat = 0; seat < now.size; seat++) {
            if (now.isFree(seat)) {
                draft.takeOver(now);
                draft.add(kind, seat, a);
                int pairs = draft.wantedPairs();
                if (pairs > most) {
                    most = pairs;
                    best = seat;
                }
            }
        }
        return best;
    }

    private int disputedBut(Shelf row, int leftOut) {
        int pairs = 0;
        for (int p = 0; p < now.count; p++) {
            for (int q = p + 1; q < now.count; q++) {
                boolean heSays = (row.number(p) >> q & 1) != 0;
                boolean otherSays = (row.number(q) >> p & 1) != 0;
                if (heSays != otherSays && p != leftOut && q != leftOut) {
                    pairs++;
                }
            }
        }
        return pairs;
    }

    private int liar(Shelf row) {
        if (disputedBut(row, NONE) == 0) {
            return NONE;
        }
        for (int g = 0; g < now.count; g++) {
            if (disputedBut(row, g) == 0) {
                return g;
            }
        }
        return NONE;
    }

    /** A ROUND takes as long as its longest clink, not as all of them. */
    private int clinkTogether(long pairs) {
        now.seconds += plan.longest(pairs);
        int clinks = 0;
        for (int p = 0; p < plan.count; p++) {
            if (Plan.isIn(pairs, p)) {
                now.clinkUncounted(plan.lesser[p], plan.other[p]);
                clinks++;
            }
        }
        return clinks;
    }

    private void feastOnce() {
        int guest = now.drawBelow(now.count);
        int other = now.drawBelow(now.count);
        if (guest == other) {
            return;
        }
        if (now.isWanted(guest, other)) {
            now.clinkAlone(guest, other);
        } else {
            now.swap(guest, other);
        }
    }

    private void emptyShelvesOfGone() {
        for (int s = 0; s < SHELVES; s++) {
            if (shelves[s].holdsGuest() && !now.exists(shelves[s].held)) {
                shelves[s].hold(NONE);
            }
        }
    }

    /** Made with room for the greatest ROW, so that row() makes nothing new. */
    private static final class Shelf {
        final long[] elements = new long[ELEMENTS_MOST];
        /** NONE, the GUEST's number, or ROW_HELD and the SORT: as holds() answers it. */
        int held = NONE;
        int length = 0;

        boolean isEmpty() {
            return held == NONE;
        }

        boolean holdsGuest() {
            return held >= 0 && held < ROW_HELD;
        }

        boolean has(int i) {
            return i >= 0 && i < length;
        }

        /** Subtracts: i + n could wrap. */
        boolean hasPart(int i, int n) {
            return i >= 0 && n >= 0 && i <= length && n <= length - i;
        }

        void hold(int guest) {
            held = guest;
            length = 0;
        }

        void become(int sort, int n) {
            held = ROW_HELD + sort;
            length = Math.max(0, Math.min(n, ELEMENTS_MOST));
            for (int i = 0; i < length; i++) {
                elements[i] = 0;
            }
        }

        void put(int i, long v) {
            if (has(i)) {
                elements[i] = kept(v);
            }
        }

        private long kept(long v) {
            switch (held - ROW_HELD) {
                case BYTES:
                    return (byte) v;
                case SHORTS:
                    return (short) v;
                case INTS:
                    return (int) v;
                default:
                    return v;
            }
        }

        /** Behind the last 0, which is no letter: a text that ends too early stops the Reader at its end. */
        int number(int i) {
            return has(i) ? (int) elements[i] : 0;
        }
    }

    /** All that THE IMAGE takes: SEATS, GUESTS, what is BARRED and HAD, EYES, the counts, SEED. */
    private static final class Table {
        final int[] kinds = new int[GUESTS_MOST];
        final int[] places = new int[GUESTS_MOST];
        final int[] amounts = new int[GUESTS_MOST];
        final int[] barredBits = new int[GUESTS_MOST];
        final int[] hadBits = new int[GUESTS_MOST];
        int size = SEATS_FIRST;
        int count = 0;
        int eyeing = 0;
        int clinks = 0;
        int seconds = 0;
        int seeded = 1;

        void takeOver(Table from) {
            System.arraycopy(from.kinds, 0, kinds, 0, GUESTS_MOST);
            System.arraycopy(from.places, 0, places, 0, GUESTS_MOST);
            System.arraycopy(from.amounts, 0, amounts, 0, GUESTS_MOST);
            System.arraycopy(from.barredBits, 0, barredBits, 0, GUESTS_MOST);
            System.arraycopy(from.hadBits, 0, hadBits, 0, GUESTS_MOST);
            size = from.size;
            count = from.count;
            eyeing = from.eyeing;
            clinks = from.clinks;
            seconds = from.seconds;
            seeded = from.seeded;
        }

        boolean exists(int guest) {
            return guest >= 0 && guest < count;
        }

        boolean isFull() {
            return count >= GUESTS_MOST;
        }

        boolean isOf(int guest, int kind) {
            return (LINES[kinds[guest]] >> kind & 1) != 0;
        }

        int guestBits() {
            return bit(count) - 1;
        }

        int othersOf(int guest) {
            return guestBits() & ~bit(guest);
        }

        int freeSeatBits() {
            int free = bit(size) - 1;
            for (int g = 0; g < count; g++) {
                free &= ~bit(places[g]);
            }
            return free;
        }

        boolean isFree(int seat) {
            return seat >= 0 && seat < size && (freeSeatBits() >> seat & 1) != 0;
        }

        void add(int kind, int seat, int a) {
            if (isFull()) {
                return;
            }
            kinds[count] = kind;
            places[count] = seat;
            amounts[count] = a;
            barredBits[count] = 0;
            hadBits[count] = 0;
            count++;
        }

        void removeLast() {
            if (count == 0) {
                return;
            }
            count--;
            for (int g = 0; g < count; g++) {
                barredBits[g] &= guestBits();
                hadBits[g] &= guestBits();
            }
        }

        void swap(int guest, int other) {
            int place = places[guest];
            places[guest] = places[other];
            places[other] = place;
        }

        /** Whether that changed something. */
        boolean mark(int[] bits, int guest, int other, boolean is) {
            boolean was = (bits[guest] >> other & 1) != 0;
            if (was == is) {
                return false;
            }
            bits[guest] ^= bit(other);
            bits[other] ^= bit(guest);
            return true;
        }

        int distance(int guest, int other) {
            int up = places[guest] - places[other];
            int seats = up < 0 ? -up : up;
            return 2 * seats <= size ? seats : size - seats;
        }

        boolean mayClink(int guest, int other) {
            if ((barredBits[guest] >> other & 1) != 0) {
                return false;
            }
            if (isOf(guest, SOBER) || isOf(other, SOBER)) {
                return false;
            }
            if (isOf(guest, SHY) && isOf(other, SHY)) {
                return false;
            }
            int seats = distance(guest, other);
            if (isOf(guest, SHORT) && seats > amounts[guest] + 1) {
                return false;
            }
            return !isOf(other, SHORT) || seats <= amounts[other] + 1;
        }

        int slownessOf(int guest) {
            return isOf(guest, SLOW) ? amounts[guest] : 0;
        }

        int secondsOf(int guest, int other) {
            int plain = 1 + Math.max(slownessOf(guest), slownessOf(other));
            return eyeing == 1 ? 2 * plain : plain;
        }

        private boolean sitsBetween(int guest, int one, int two) {
            int low = Math.min(places[one], places[two]);
            int high = Math.max(places[one], places[two]);
            return places[guest] > low && places[guest] < high;
        }

        private boolean hasKind(int guest, int other, int kind) {
            return isOf(guest, kind) || isOf(other, kind);
        }

        /** Of four GUESTS: whoever sits not on the one way between two sits on the other. */
        boolean armsCross(int guest, int other, int third, int fourth) {
            if (hasKind(guest, other, HOST) || hasKind(third, fourth, HOST)) {
                return false;
            }
            if (hasKind(guest, other, LEFTY) && hasKind(third, fourth, LEFTY)) {
                return false;
            }
            return sitsBetween(third, guest, other) != sitsBetween(fourth, guest, other);
        }

        boolean isWanted(int guest, int other) {
            return guest != other && (hadBits[guest] >> other & 1) == 0 && mayClink(guest, other);
        }

        int lacksOf(int guest) {
            int bits = 0;
            for (int g = 0; g < count; g++) {
                bits |= isWanted(guest, g) ? bit(g) : 0;
            }
            return bits;
        }

        int wantsOf(int guest) {
            return Integer.bitCount(lacksOf(guest));
        }

        int mayOf(int guest) {
            int others = 0;
            for (int g = 0; g < count; g++) {
                others += g != guest && mayClink(guest, g) ? 1 : 0;
            }
            return others;
        }

        int wantedPairs() {
            int pairs = 0;
            for (int p = 0; p < count; p++) {
                for (int q = p + 1; q < count; q++) {
                    pairs += isWanted(p, q) ? 1 : 0;
                }
            }
            return pairs;
        }

        int hadPairs() {
            int ends = 0;
            for (int g = 0; g < count; g++) {
                ends += Integer.bitCount(hadBits[g]);
            }
            return ends / 2;
        }

        void clinkAlone(int guest, int other) {
            seconds += secondsOf(guest, other);
            clinkUncounted(guest, other);
        }

        /** The SECONDS are the caller's to count. */
        void clinkUncounted(int guest, int other) {
            mark(hadBits, guest, other, true);
            clinks++;
        }

        int drawBelow(int n) {
            seeded = seeded * 1103515245 + 12345;
            return n > 0 ? (seeded >>> 16) % n : 0;
        }
    }

    /** The WANTED PAIRS of a table in order, and sets of them as bits: the i-th PAIR is bit i. */
    private static final class Plan {
        final int[] lesser = new int[PAIRS_MOST];
        final int[] other = new int[PAIRS_MOST];
        final int[] pairSeconds = new int[PAIRS_MOST];
        /** Of each PAIR those that it CROSSES. */
        final long[] crossed = new long[PAIRS_MOST];
        /** Of each PAIR those that can't be AT ONCE with it. */
        final long[] barring = new long[PAIRS_MOST];
        /** The latest ROUNDS, or layers. */
        final long[] groups = new long[PAIRS_MOST];
        /** Of each set of FEWEST_MOST PAIRS the fewest sets AT ONCE. */
        private final int[] parts = new int[1 << FEWEST_MOST];
        int count = 0;
        int mostSize = 0;
        private long mostPairs = 0;

        void draw(Table table) {
            count = 0;
            for (int p = 0; p < table.count; p++) {
                for (int q = p + 1; q < table.count; q++) {
                    if (table.isWanted(p, q)) {
                        addPair(table, p, q);
                    }
                }
            }
        }

        private void addPair(Table table, int p, int q) {
            if (count >= PAIRS_MOST) {
                return;
            }
            lesser[count] = p;
            other[count] = q;
            pairSeconds[count] = table.secondsOf(p, q);
            crossed[count] = 0;
            barring[count] = 0;
            for (int i = 0; i < count; i++) {
                if ((guestsOf(i) & guestsOf(count)) != 0) {
                    note(barring, i);
                } else if (table.armsCross(lesser[i], other[i], p, q)) {
                    note(barring, i);
                    note(crossed, i);
                }
            }
            count++;
        }

        /** Between the PAIR that is being added and one ahead of it. */
        private void note(long[] between, int i) {
            between[i] |= 1L << count;
            between[count] |= 1L << i;
        }

        static boolean isIn(long pairs, int p) {
            return (pairs >> p & 1) != 0;
        }

        long all() {
            return (1L << count) - 1;
        }

        int codeOf(int p) {
            return codeOfPair(lesser[p], other[p]);
        }

        private int guestsOf(int p) {
            return bit(lesser[p]) | bit(other[p]);
        }

        int pairOfCode(long pairs, int code) {
            for (int p = 0; p < count; p++) {
                if (isIn(pairs, p) && codeOf(p) == code) {
                    return p;
                }
            }
            return NONE;
        }

        int pairAt(long pairs, int i) {
            int ahead = 0;
            for (int p = 0; p < count; p++) {
                if (isIn(pairs, p)) {
                    if (ahead == i) {
                        return p;
                    }
                    ahead++;
                }
            }
            return NONE;
        }

        private int guestsIn(long pairs) {
            int guests = 0;
            for (int p = 0; p < count; p++) {
                guests |= isIn(pairs, p) ? guestsOf(p) : 0;
            }
            return guests;
        }

        /** Only a set of more than so many PAIRS is sought: bestChange() needs none that isn't better. */
        long largest(long pairs, int above) {
            mostSize = above;
            mostPairs = 0;
            seek(this, 0, pairs, guestsIn(pairs), 0, 0);
            return mostPairs;
        }

        /** In order, each PAIR taken ahead of being left: so the first of its size is the MOST. */
        private static void seek(Plan plan, int from, long open, int free, long taken, int size) {
            if (size > plan.mostSize) {
                plan.mostSize = size;
                plan.mostPairs = taken;
            }
            if (size >= AT_ONCE_MOST) {
                return;
            }
            for (int p = from; p < plan.count; p++) {
                if (isIn(open, p)) {
                    if (size + plan.roomFrom(p, free) <= plan.mostSize) {
                        return;
                    }
                    seek(plan, p + 1, open & ~plan.barring[p], free & ~plan.guestsOf(p),
                            taken | (1L << p), size + 1);
                }
            }
        }

        /** No more PAIRS can come: from here on both GUESTS of each are at least the lesser. */
        private int roomFrom(int p, int free) {
            return Integer.bitCount(free & (-1 << lesser[p])) / 2;
        }

        int countLargest() {
            largest(all(), 0);
            return countSets(this, 0, all(), guestsIn(all()), 0);
        }

        private static int countSets(Plan plan, int from, long open, int free, int size) {
            if (size >= plan.mostSize || size >= AT_ONCE_MOST) {
                return 1;
            }
            int sets = 0;
            for (int p = from; p < plan.count; p++) {
                if (isIn(open, p)) {
                    if (size + plan.roomFrom(p, free) < plan.mostSize) {
                        return sets;
                    }
                    sets += countSets(plan, p + 1, open & ~plan.barring[p],
                            free & ~plan.guestsOf(p), size + 1);
                }
            }
            return sets;
        }

        /** With a limit, since who asks for one ROUND needs none behind it. */
        int makeRounds(int limit) {
            long left = all();
            int made = 0;
            while (made < limit && made < PAIRS_MOST && left != 0) {
                groups[made] = largest(left, 0);
                left &= ~groups[made];
                made++;
            }
            return made;
        }

        int longest(long pairs) {
            int seconds = 0;
            for (int p = 0; p < count; p++) {
                seconds = isIn(pairs, p) ? Math.max(seconds, pairSeconds[p]) : seconds;
            }
            return seconds;
        }

        int secondsInRounds() {
            int rounds = makeRounds(PAIRS_MOST);
            int seconds = 0;
            for (int r = 0; r < rounds; r++) {
                seconds += longest(groups[r]);
            }
            return seconds;
        }

        int secondsAlone() {
            int seconds = 0;
            for (int p = 0; p < count; p++) {
                seconds += pairSeconds[p];
            }
            return seconds;
        }

        int makeLayers() {
            int made = 0;
            for (int p = 0; p < count; p++) {
                int layer = 0;
                while (layer < made && (groups[layer] & crossed[p]) != 0) {
                    layer++;
                }
                if (layer == made) {
                    groups[made] = 0;
                    made++;
                }
                groups[layer] |= 1L << p;
            }
            return made;
        }

        int fewestSets() {
            int pairs = Math.min(count, FEWEST_MOST);
            parts[0] = 0;
            for (int last = 0; last < pairs; last++) {
                for (int rest = 0; rest < bit(last); rest++) {
                    parts[bit(last) | rest] = partsWith(last, rest);
                }
            }
            return parts[bit(pairs) - 1];
        }

        /** Of the last PAIR and the rest: one set AT ONCE has the last, with some of the rest. */
        private int partsWith(int last, int rest) {
            if (parts[rest] <= 1 && (barring[last] & rest) == 0) {
                return 1;
            }
            int best = 1 + parts[rest];
            for (int some = 1; some < rest; some++) {
                if ((some & ~rest) == 0 && parts[bit(last) | some] == 1) {
                    best = Math.min(best, 1 + parts[rest & ~some]);
                }
            }
            return best;
        }
    }

    /** A told evening, heard as far as it is not WRONG. */
    private static final class Evening {
        long wantedBehind = 0;
        int roundCount = 0;

        int firstWrong(Shelf row, int n, Plan plan) {
            wantedBehind = plan.all();
            roundCount = n > 0 ? 1 : 0;
            long round = 0;
            for (int i = 0; i < n; i++) {
                if (row.number(i) == NONE) {
                    round = 0;
                    roundCount++;
                } else {
                    int p = plan.pairOfCode(wantedBehind, row.number(i));
                    if (p == NONE || (plan.barring[p] & round) != 0) {
                        return i;
                    }
                    round |= 1L << p;
                    wantedBehind &= ~(1L << p);
                }
            }
            return NONE;
        }
    }

    /** Reads a TABLE; where it can't go on, it stays: that place is the FAULT. */
    private static final class Reader {
        private static final int KIND_BITS = (1 << KINDS) - 1;
        private static final int AMOUNT_BITS = (1 << (AMOUNT_MOST + 1)) - 1;
        private static final int EYES_BITS = 0b11;
        private static final int SEATS_BITS = (1 << (SEATS_MOST + 1)) - (1 << SEATS_LEAST);

        int at = 0;

        /** How many ITEMS it told over the table; NONE: a FAULT. */
        int read(Shelf text, Table table) {
            at = 0;
            for (int items = 1; items <= ELEMENTS_MOST; items++) {
                if (!readItem(text, table)) {
                    return NONE;
                }
                if (at >= text.length) {
                    return items;
                }
                if (text.number(at) != ';') {
                    return NONE;
                }
                at++;
            }
            return NONE;
        }

        /** No two words begin with the same letter. */
        private boolean readItem(Shelf text, Table table) {
            switch (text.number(at)) {
                case 's':
                    return readWordIf(table.count == 0, text, "seats") && readSeats(text, table);
                case 'g':
                    return readWordIf(!table.isFull(), text, "guest") && readGuest(text, table);
                case 'b':
                    return readWord(text, "bar") && readPair(text, table, table.barredBits);
                case 'h':
                    return readWord(text, "had") && readPair(text, table, table.hadBits);
                case 'e':
                    return readWord(text, "eyes") && readEyes(text, table);
                case 'm':
                    return readWord(text, "move") && readMove(text, table);
                default:
                    return false;
            }
        }

        /** What the table doesn't let be told is at FAULT as a word, so only once all of it is there. */
        private boolean readWordIf(boolean lets, Shelf text, String word) {
            int first = at;
            if (!readWord(text, word)) {
                return false;
            }
            if (!lets) {
                at = first;
            }
            return lets;
        }

        private boolean readWord(Shelf text, String word) {
            for (int i = 0; i < word.length(); i++) {
                if (text.number(at) != word.charAt(i)) {
                    return false;
                }
                at++;
            }
            return true;
        }

        /** One blank and a NUMBER that may be, as bits tell; else NONE, and it stays there. */
        private int readNumber(Shelf text, int mayBe) {
            if (text.number(at) != ' ') {
                return NONE;
            }
            at++;
            int first = digit(text.number(at));
            if (first == NONE) {
                return NONE;
            }
            int second = digit(text.number(at + 1));
            int value = second == NONE ? first : 10 * first + second;
            if (value > SEATS_MOST || (mayBe >> value & 1) == 0) {
                return NONE;
            }
            at += second == NONE ? 1 : 2;
            return value;
        }

        private static int digit(int letter) {
            return letter >= '0' && letter <= '9' ? letter - '0' : NONE;
        }

        private boolean readSeats(Shelf text, Table table) {
            int n = readNumber(text, SEATS_BITS);
            if (n == NONE) {
                return false;
            }
            table.size = n;
            return true;
        }

        private boolean readGuest(Shelf text, Table table) {
            int kind = readNumber(text, KIND_BITS);
            int seat = kind == NONE ? NONE : readNumber(text, table.freeSeatBits());
            int a = seat == NONE ? NONE : readNumber(text, AMOUNT_BITS);
            if (a == NONE) {
                return false;
            }
            table.add(kind, seat, a);
            return true;
        }

        private boolean readPair(Shelf text, Table table, int[] bits) {
            int guest = readNumber(text, table.guestBits());
            int other = guest == NONE ? NONE : readNumber(text, table.othersOf(guest));
            if (other == NONE) {
                return false;
            }
            table.mark(bits, guest, other, true);
            return true;
        }

        private boolean readEyes(Shelf text, Table table) {
            int v = readNumber(text, EYES_BITS);
            if (v == NONE) {
                return false;
            }
            table.eyeing = v;
            return true;
        }

        private boolean readMove(Shelf text, Table table) {
            int guest = readNumber(text, table.guestBits());
            int seat = guest == NONE ? NONE : readNumber(text, table.freeSeatBits());
            if (seat == NONE) {
                return false;
            }
            table.places[guest] = seat;
            return true;
        }
    }

    /** The ACTS of one GUEST: bodies begin from his KIND upwards, their answers come back down. */
    private static final class Acts {
        private final int[] bodies = new int[TRACE_MOST];
        int ran = 0;
        private int line = 0;
        private int m = 0;
        private int k = 0;

        void forget() {
            ran = 0;
        }

        int bodyAt(int i) {
            return i >= 0 && i < ran && i < TRACE_MOST ? bodies[i] : NONE;
        }

        int run(int kind, int act, int number, int amount, int x) {
            line = isKind(kind) ? LINES[kind] : 0;
            m = number;
            k = amount;
            switch (act) {
                case 0:
                    return clinksOf(x);
                case 1:
                    return waitsOf(x);
                case 2:
                    return looksOf(x);
                default:
                    return 0;
            }
        }

        private boolean is(int kind) {
            return (line >> kind & 1) != 0;
        }

        private void begin(int body) {
            if (ran < TRACE_MOST) {
                bodies[ran] = body;
            }
            ran++;
        }

        private void beginIf(int kind, int body) {
            if (is(kind)) {
                begin(body);
            }
        }

        private int clinksOf(int x) {
            beginIf(HOST, 70);
            beginIf(LEFTY, 51);
            beginIf(SHORT, 20);
            begin(10);
            int v = x + m;
            v += is(SHORT) ? k : 0;
            v -= is(LEFTY) ? m : 0;
            return is(HOST) ? 2 * v : v;
        }

        private int waitsOf(int x) {
            beginIf(HOST, 71);
            beginIf(SHY, 40);
            beginIf(SLOW, 30);
            begin(11);
            int inner = x;
            inner += is(SHY) ? 1 : 0;
            inner -= is(HOST) ? k : 0;
            int v = clinksOf(inner) * 2;
            return is(SLOW) ? 3 * v : v;
        }

        private int looksOf(int x) {
            beginIf(SOBER, 60);
            beginIf(LEFTY, 50);
            begin(12);
            int waited = waitsOf(x);
            int v = waited ^ clinksOf(x - k);
            v = is(LEFTY) ? -v : v;
            return is(SOBER) ? v ^ 5 : v;
        }
    }
}
