import java.math.BigInteger;

/** "2. Inside" and promises 9 to 15. */
final class InsideBounds {

    private static final int HALF = 1 << 30;
    private static final int LOW = Bound.LOW;
    private static final int HIGH = Bound.HIGH;
    private static final BigInteger FAR = BigInteger.valueOf(4294967296L);

    /** Where sums wrap around as ints (or as longs, times FAR), and where the conditions turn. */
    private static final int[] EDGES = {LOW, LOW + 1, -HALF, -2, -1, 0, 1, 2, 4, 5, 6, HALF - 1, HALF, HALF + 1, HIGH - 1, HIGH};

    private InsideBounds() {
    }

    static void run() {
        aPlace();
        aSpan();
        aStretch();
        howeverGreat();
        far();
        places();
        spans();
        stretches();
        promise15Places();
        promise15SpansAndStretches();
        promise15Throws();
    }

    private static void aPlace() {
        Bound.says("2", "Of a length L (a whole number) lies inside: a PLACE p, if 0 <= p and p < L;");
        place("0 <= p", 0, 1, true);
        place("0 <= p, not", -1, 1, false);
        place("p < L", 4, 5, true);
        place("p < L, not", 5, 5, false);
        place("none of 0", 0, 0, false);
        place("none of -1", 0, -1, false);
        place("-2 < -1, but 0 <= p not", -2, -1, false);
        place("greatest", HIGH - 1, HIGH, true);
        place("greatest, not", HIGH, HIGH, false);
        place("smallest", LOW, HIGH, false);
        place("of the smallest", 0, LOW, false);
        place("smallest of a small one", LOW, LOW + 1, false);
    }

    private static void aSpan() {
        Bound.says("2", "a SPAN from f to t, if 0 <= f, f <= t and t <= L;");
        span("0 <= f", 0, 1, 5, true);
        span("0 <= f, not", -1, 1, 5, false);
        span("f <= t", 3, 3, 5, true);
        span("f <= t, not", 3, 2, 5, false);
        span("t <= L", 3, 5, 5, true);
        span("t <= L, not", 3, 6, 5, false);
        span("nothing at 0 of 0", 0, 0, 0, true);
        span("nothing at L", 5, 5, 5, true);
        span("nothing behind L", 6, 6, 5, false);
        span("nothing at -1", -1, -1, 5, false);
        span("of -1", 0, 0, -1, false);
        span("from -1 to -1 of -1", -1, -1, -1, false);
        span("greatest", HIGH, HIGH, HIGH, true);
        span("all of the greatest", 0, HIGH, HIGH, true);
        span("all but one is too few", 0, HIGH, HIGH - 1, false);
        span("from the smallest", LOW, HIGH, HIGH, false);
        span("from the greatest to the smallest", HIGH, LOW, HIGH, false);
        span("of the smallest", 0, 0, LOW, false);
    }

    private static void aStretch() {
        Bound.says("2", "a STRETCH of s from f on, if 0 <= f, 0 <= s, 0 <= L and f + s <= L,");
        stretch("0 <= f", 0, 5, 5, true);
        stretch("0 <= f, not", -1, 5, 5, false);
        stretch("0 <= f, not, with none", -1, 0, 5, false);
        stretch("0 <= s", 3, 0, 5, true);
        stretch("0 <= s, not", 3, -1, 5, false);
        stretch("0 <= s, not, from behind L", 6, -1, 5, false);
        stretch("0 <= L", 0, 0, 0, true);
        stretch("0 <= L, not", 0, 0, -1, false);
        stretch("0 <= L, not, -1 and 0 <= -1", -1, 0, -1, false);
        stretch("0 <= L, not, 0 and -1 <= -1", 0, -1, -1, false);
        stretch("f + s <= L", 3, 2, 5, true);
        stretch("f + s <= L, not", 3, 3, 5, false);
        stretch("none at L", 5, 0, 5, true);
        stretch("none behind L", 6, 0, 5, false);
        stretch("one of none", 0, 1, 0, false);
    }

    private static void howeverGreat() {
        Bound.says("2", "as whole numbers are, however great (no sum wraps around).");
        stretch("the sum is the greatest", HALF - 1, HALF, HIGH, true);
        stretch("the sum is 2147483648", HALF, HALF, HIGH, false);
        stretch("the sum is 2147483648, too, with 1", HIGH, 1, HIGH, false);
        stretch("the sum is 2147483648, too, from 1", 1, HIGH, HIGH, false);
        stretch("the sum is 4294967294, -2 as an int", HIGH, HIGH, HIGH, false);
        stretch("the sum is 4294967294, of 5", HIGH, HIGH, 5, false);
        stretch("the sum is 4294967294, of 0", HIGH, HIGH, 0, false);
        stretch("the sum is 2147483648, of the smallest", HALF, HALF, LOW, false);
        stretch("the sum is -4294967296, 0 as an int", LOW, LOW, 0, false);
        stretch("the sum is -4294967296, of 5", LOW, LOW, 5, false);
        stretch("the sum is -1", LOW, HIGH, 5, false);
        stretch("the sum is -1, the other way", HIGH, LOW, 5, false);
        stretch("the difference wraps around", 0, LOW, HIGH, false);
        stretch("the difference wraps around, of the smallest", 0, 1, LOW, false);
        stretch("all of the greatest", 0, HIGH, HIGH, true);
        stretch("none at the greatest", HIGH, 0, HIGH, true);
    }

    private static void far() {
        Bound.says("2", "FAR numbers are the told ones times 4294967296.");
        Bound.tells(new Checkdesk(), "1 of 2, both 0 as ints", true, x -> x.isFarPlace(1, 2));
        Bound.tells(new Checkdesk(), "2 of 1, both 0 as ints", false, x -> x.isFarPlace(2, 1));
        Bound.tells(new Checkdesk(), "2 to 1 of 3", false, x -> x.isFarSpan(2, 1, 3));
        Bound.tells(new Checkdesk(), "1 to 3 of 2", false, x -> x.isFarSpan(1, 3, 2));
        Bound.tells(new Checkdesk(), "-1 to 1 of 2", false, x -> x.isFarSpan(-1, 1, 2));
        Bound.tells(new Checkdesk(), "2 from 1 of 3", true, x -> x.isFarStretch(1, 2, 3));
        Bound.tells(new Checkdesk(), "2 from 2 of 3", false, x -> x.isFarStretch(2, 2, 3));
        Bound.tells(new Checkdesk(), "the sum is 2 to the 63rd", false, x -> x.isFarStretch(HALF, HALF, HIGH));
        Bound.tells(new Checkdesk(), "the sum is one FAR less", true, x -> x.isFarStretch(HALF, HALF - 1, HIGH));
        Bound.tells(new Checkdesk(), "the sum is just below 2 to the 64th", false, x -> x.isFarStretch(HIGH, HIGH, 0));
        Bound.tells(new Checkdesk(), "the sum is minus 2 to the 64th", false, x -> x.isFarStretch(LOW, LOW, 0));
        Bound.tells(new Checkdesk(), "the greatest", true, x -> x.isFarPlace(HIGH - 1, HIGH));
        Bound.tells(new Checkdesk(), "the smallest", false, x -> x.isFarPlace(LOW, HIGH));
    }

    private static void places() {
        Bound.says(9, "Returns the PLACE, if it lies inside; REFUSED otherwise.");
        Bound.says(12, "- `place`: a PLACE, FAR - `length`: a length, FAR");
        Bound.says(12, "Returns whether it lies inside.");
        for (int place : EDGES) {
            for (int length : EDGES) {
                place("of the edges", place, length, place >= 0 && place < length);
            }
        }
    }

    private static void spans() {
        Bound.says(10, "Returns from, if the SPAN lies inside; REFUSED otherwise.");
        Bound.says(13, "- `from`: where a SPAN begins, FAR - `to`: where it ends, FAR - `length`: a length, FAR");
        Bound.says(13, "Returns whether it lies inside.");
        for (int from : EDGES) {
            for (int to : EDGES) {
                for (int length : EDGES) {
                    span("of the edges", from, to, length, 0 <= from && from <= to && to <= length);
                }
            }
        }
    }

    private static void stretches() {
        Bound.says(11, "Returns from, if the STRETCH lies inside; REFUSED otherwise.");
        Bound.says(14, "- `from`: where a STRETCH begins, FAR - `size`: of how many, FAR - `length`: a length, FAR");
        Bound.says(14, "Returns whether it lies inside.");
        for (int from : EDGES) {
            for (int size : EDGES) {
                for (int length : EDGES) {
                    boolean fits = far(from).add(far(size)).compareTo(far(length)) <= 0;
                    stretch("of the edges", from, size, length, from >= 0 && size >= 0 && length >= 0 && fits);
                }
            }
        }
    }

    private static BigInteger far(int number) {
        return BigInteger.valueOf(number).multiply(FAR);
    }

    private static void place(String what, int place, int length, boolean inside) {
        Checkdesk x = new Checkdesk();
        String call = what + ": " + place + " of " + length;
        Bound.is(call, x.place(place, length), inside ? place : -9);
        Bound.is(call + ", counted", x.house(2), inside ? 0 : 1);
        Bound.is(call + ", FAR", x.isFarPlace(place, length), inside);
        Bound.is(call + ", FAR, not counted", x.house(2), inside ? 0 : 1);
    }

    private static void span(String what, int from, int to, int length, boolean inside) {
        Checkdesk x = new Checkdesk();
        String call = what + ": " + from + " to " + to + " of " + length;
        Bound.is(call, x.span(from, to, length), inside ? from : -9);
        Bound.is(call + ", counted", x.house(2), inside ? 0 : 1);
        Bound.is(call + ", FAR", x.isFarSpan(from, to, length), inside);
        Bound.is(call + ", FAR, not counted", x.house(2), inside ? 0 : 1);
    }

    private static void stretch(String what, int from, int size, int length, boolean inside) {
        Checkdesk x = new Checkdesk();
        String call = what + ": " + size + " from " + from + " of " + length;
        Bound.is(call, x.stretch(from, size, length), inside ? from : -9);
        Bound.is(call + ", counted", x.house(2), inside ? 0 : 1);
        Bound.is(call + ", FAR", x.isFarStretch(from, size, length), inside);
        Bound.is(call + ", FAR, not counted", x.house(2), inside ? 0 : 1);
    }

    private static void promise15Places() {
        Bound.says(15, "0 how many PLACES -2 to 26 lie inside of how many SIGNS it has,");
        Bound.tells(new Checkdesk(), "of none", 0, x -> x.insides(0, 0));
        Bound.tells(Bound.desk(), "of 1", 1, x -> x.insides(6, 0));
        Bound.tells(Bound.desk(), "of 23", 23, x -> x.insides(7, 0));
        Bound.tells(Bound.desk(), "of 24", 24, x -> x.insides(5, 0));
    }

    private static void promise15SpansAndStretches() {
        Bound.says(15, "1 how many SPANS with both ends -2 to 26,");
        insides(1);
        Bound.says(15, "2 how many STRETCHES with both numbers -2 to 26");
        insides(2);
        Bound.says(15, "Returns that.");
        for (int size = 0; size <= 24; size++) {
            Checkdesk x = new Checkdesk();
            x.fill(8, 9, size);
            int[] dues = counted(size);
            for (int what = 0; what <= 2; what++) {
                int number = what;
                Bound.tells(x, "insides of " + size + " by " + what, dues[what], desk -> desk.insides(8, number));
            }
        }
    }

    private static void insides(int what) {
        Bound.tells(new Checkdesk(), "of none, 0 and 0", 1, x -> x.insides(0, what));
        Bound.tells(Bound.desk(), "of 1", 3, x -> x.insides(6, what));
        Bound.tells(Bound.desk(), "of 23", 300, x -> x.insides(7, what));
        Bound.tells(Bound.desk(), "of 24", 325, x -> x.insides(5, what));
    }

    /** The three numbers, counted one by one, as the document tells it. */
    private static int[] counted(int length) {
        int[] many = new int[3];
        for (int one = -2; one <= 26; one++) {
            many[0] += 0 <= one && one < length ? 1 : 0;
            for (int other = -2; other <= 26; other++) {
                many[1] += 0 <= one && one <= other && other <= length ? 1 : 0;
                many[2] += 0 <= one && 0 <= other && one + other <= length ? 1 : 0;
            }
        }
        return many;
    }

    private static void promise15Throws() {
        Bound.namesNone("Promise 15", "- `what`:");
        Bound.says(15, "Throws `IllegalArgumentException` if what is not 0 to 2");
        for (int what : new int[] {-1, 3, -9, LOW, HIGH}) {
            Bound.tells(Bound.desk(), "what " + what, Bound.NO_ARGUMENT, x -> x.insides(0, what));
        }
        Bound.says(15, "Throws `IllegalStateException` if it is MISSING");
        for (int what = 0; what <= 2; what++) {
            int number = what;
            Bound.tells(Bound.desk(), "MISSING, what " + what, Bound.NO_STATE, x -> x.insides(4, number));
        }
    }
}
