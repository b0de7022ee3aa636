import java.nio.charset.StandardCharsets;

/** What the project's tests share: answers compared with those that are due, texts put into ROWS. */
final class Due {
    private static int asked = 0;
    private static int wrong = 0;

    private Due() {
    }

    static void is(String call, long got, long want) {
        asked++;
        if (got != want) {
            wrong++;
            System.out.println(call + " answered " + got + ", due is " + want);
        }
    }

    /** The answer is due, and just one REFUSAL more of its number, none of another. */
    static void refused(NoArmsCrossed x, String call, java.util.function.IntSupplier run, int want) {
        int[] before = refusals(x);
        is(call, run.getAsInt(), want);
        int counted = want < -10 ? want + 10 : want;
        before[-counted]++;
        int[] after = refusals(x);
        for (int no = 1; no <= 7; no++) {
            is("status(" + (10 + no) + ") after " + call, after[no], before[no]);
        }
    }

    /** The answer is due, and no REFUSAL more. */
    static void fine(NoArmsCrossed x, String call, java.util.function.IntSupplier run, int want) {
        int[] before = refusals(x);
        is(call, run.getAsInt(), want);
        int[] after = refusals(x);
        for (int no = 1; no <= 7; no++) {
            is("status(" + (10 + no) + ") after " + call, after[no], before[no]);
        }
    }

    /** What each call with two GUESTS refuses, GUEST 1 being there. */
    static void pairRefused(NoArmsCrossed x, String call, java.util.function.IntBinaryOperator run) {
        int n = x.status(0);
        refused(x, call + " with none such", () -> run.applyAsInt(0, n), -1);
        refused(x, call + " of none such", () -> run.applyAsInt(-1, 0), -1);
        refused(x, call + " of the same none", () -> run.applyAsInt(n, n), -1);
        refused(x, call + " of the same", () -> run.applyAsInt(1, 1), -6);
    }

    private static int[] refusals(NoArmsCrossed x) {
        int[] counts = new int[8];
        for (int no = 1; no <= 7; no++) {
            counts[no] = x.status(10 + no);
        }
        return counts;
    }

    static void text(NoArmsCrossed x, int shelf, int sort, String text) {
        byte[] letters = text.getBytes(StandardCharsets.ISO_8859_1);
        is("row(" + shelf + ") for " + text, x.row(shelf, sort, letters.length), 1);
        for (int i = 0; i < letters.length; i++) {
            x.set(shelf, i, letters[i]);
        }
    }

    static void numbers(NoArmsCrossed x, int shelf, int sort, long... numbers) {
        is("row(" + shelf + ")", x.row(shelf, sort, numbers.length), 1);
        for (int i = 0; i < numbers.length; i++) {
            x.set(shelf, i, numbers[i]);
        }
    }

    /** An object with so many SEATS and plain GUESTS in SEATS 0, 1, .. */
    static NoArmsCrossed plain(int seats, int guests) {
        NoArmsCrossed x = new NoArmsCrossed();
        is("seats(" + seats + ")", x.seats(seats), 8);
        for (int g = 0; g < guests; g++) {
            is("guest(0, " + g + ", 0)", x.guest(0, g, 0), g);
        }
        return x;
    }

    /** Only these PAIRS are WANTED of so many plain GUESTS in SEATS 0, 1, .. */
    static NoArmsCrossed only(int guests, int... pairs) {
        NoArmsCrossed x = plain(Math.max(3, guests), guests);
        for (int p = 0; p < guests; p++) {
            for (int q = p + 1; q < guests; q++) {
                boolean is = false;
                for (int pair : pairs) {
                    is |= pair == 100 * p + q;
                }
                x.had(p, q, !is);
            }
        }
        return x;
    }

    static void end(String test) {
        System.out.println(test + ": " + asked + " answers, " + wrong + " not as due");
        if (wrong != 0 || asked == 0) {
            System.exit(1);
        }
    }
}
