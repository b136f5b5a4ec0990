/** Promises 26 to 34: what is there, or what instead. */
public final class ThereTest {

    public static void main(String[] args) {
        promises26And27();
        promises28And29();
        promises30And31();
        promise32();
        promise33();
        promise34();
        wrongInputs();
        Due.end("ThereTest");
    }

    /** 0 "ab", 1 nothing, 2 "", 3 nothing, 4 "z", the others "". */
    private static Checkdesk desk() {
        Checkdesk x = new Checkdesk();
        x.write(0, 6, 7, -1);
        x.leave(1);
        x.leave(3);
        x.fill(4, 8, 1);
        return x;
    }

    private static void counts(Checkdesk x, int refused, int given) {
        Due.is("refused", x.house(2), refused);
        Due.is("given", x.house(4), given);
    }

    private static void promises26And27() {
        Checkdesk x = desk();
        Due.is("must", x.must(0), 2);
        Due.is("must, the empty", x.must(2), 0);
        counts(x, 0, 0);
        Due.is("must, nothing", x.must(1), -9);
        counts(x, 1, 0);
        Due.is("mustSaying", x.mustSaying(0), 2);
        Due.is("mustSaying, the empty", x.mustSaying(2), 0);
        counts(x, 1, 0);
        Due.is("mustSaying, nothing", x.mustSaying(1), -9);
        counts(x, 2, 1);
    }

    private static void promises28And29() {
        Checkdesk x = desk();
        Due.is("orElse", x.orElse(0, 4), "ab");
        Due.is("orElse, nothing for it", x.orElse(0, 1), "ab");
        Due.is("orElse instead", x.orElse(1, 4), "z");
        Due.is("orElse the empty", x.orElse(1, 2), "");
        Due.is("orElse of the empty", x.orElse(2, 4), "");
        Due.is("orElse itself", x.orElse(4, 4), "z");
        counts(x, 0, 0);
        Due.is("orElse, both missing", x.orElse(1, 3), "!");
        Due.is("orElse, the same, missing", x.orElse(1, 1), "!");
        counts(x, 2, 0);
        Due.is("orGiven", x.orGiven(0, 4), "ab");
        Due.is("orGiven, nothing for it", x.orGiven(0, 1), "ab");
        Due.is("orGiven of the empty", x.orGiven(2, 4), "");
        Due.is("orGiven itself", x.orGiven(4, 4), "z");
        counts(x, 2, 0);
        Due.is("orGiven instead", x.orGiven(1, 4), "z");
        Due.is("orGiven the empty", x.orGiven(1, 2), "");
        counts(x, 2, 2);
        Due.is("orGiven, both missing", x.orGiven(1, 3), "!");
        Due.is("orGiven, the same, missing", x.orGiven(1, 1), "!");
        counts(x, 4, 4);
        Due.is("nothing comes on the seat", x.isMissing(1), true);
    }

    private static void promises30And31() {
        Checkdesk x = desk();
        for (int seat = 0; seat < 9; seat++) {
            boolean missing = seat == 1 || seat == 3;
            Due.is("isMissing " + seat, x.isMissing(seat), missing);
            Due.is("isThere " + seat, x.isThere(seat), !missing);
        }
        counts(x, 0, 0);
    }

    private static void promise32() {
        Checkdesk x = desk();
        Due.is("same, both missing", x.areSame(1, 3), true);
        Due.is("same, both empty", x.areSame(2, 8), true);
        Due.is("the same seat", x.areSame(0, 0), true);
        Due.is("the same seat, missing", x.areSame(1, 1), true);
        Due.is("not same, missing and empty", x.areSame(1, 2), false);
        Due.is("not same, empty and missing", x.areSame(2, 1), false);
        Due.is("not same", x.areSame(0, 4), false);
        x.copy(7, 0);
        Due.is("same signs, another kind", x.areSame(0, 7), true);
        x.put(7, 1, 6);
        Due.is("not same, as many", x.areSame(0, 7), false);
        x.copy(7, 0);
        x.put(7, 0, 8);
        Due.is("not same, the first sign alone", x.areSame(0, 7), false);
        x.copy(7, 0);
        x.cut(7, 0, 1);
        Due.is("not same, a beginning", x.areSame(0, 7), false);
        counts(x, 0, 0);
    }

    private static void promise33() {
        Checkdesk x = desk();
        Due.is("code of nothing", x.code(1), 0);
        Due.is("code of the empty", x.code(2), 0);
        Due.is("code", x.code(0), "ab".hashCode());
        for (int sign = 0; sign < 10; sign++) {
            x.fill(5, sign, 1);
            Due.is("code of one sign", x.code(5), (int) " -01ABabz\u00ff".charAt(sign));
            x.fill(5, sign, 24);
            Due.is("code that wraps around", x.code(5), x.text(5).hashCode());
        }
        Due.is("code of 24 signs 255", x.code(5), "\u00ff".repeat(24).hashCode());
    }

    private static void promise34() {
        Checkdesk x = desk();
        int ab = "ab".hashCode();
        Due.is("codes of nothing", x.codes(1, 3, 2), 29791);
        Due.is("codes", x.codes(0, 4, 2), ((31 + ab) * 31 + 122) * 31);
        Due.is("codes, turned", x.codes(2, 4, 0), 29791 + 122 * 31 + ab);
        Due.is("codes of the same", x.codes(4, 4, 4), ((31 + 122) * 31 + 122) * 31 + 122);
        x.fill(5, 9, 24);
        int high = "\u00ff".repeat(24).hashCode();
        Due.is("codes that wrap around", x.codes(5, 0, 5), ((31 + high) * 31 + ab) * 31 + high);
        counts(x, 0, 0);
    }

    private static void wrongInputs() {
        Checkdesk x = desk();
        int[] seats = {-1, 9, Integer.MIN_VALUE, Integer.MAX_VALUE};
        for (int seat : seats) {
            Due.noSeat("must", () -> x.must(seat));
            Due.noSeat("mustSaying", () -> x.mustSaying(seat));
            Due.noSeat("orElse", () -> x.orElse(seat, 1));
            Due.noSeat("orElse", () -> x.orElse(0, seat));
            Due.noSeat("orElse", () -> x.orElse(1, seat));
            Due.noSeat("orGiven", () -> x.orGiven(seat, 1));
            Due.noSeat("orGiven", () -> x.orGiven(0, seat));
            Due.noSeat("orGiven", () -> x.orGiven(1, seat));
            Due.noSeat("isMissing", () -> x.isMissing(seat));
            Due.noSeat("isThere", () -> x.isThere(seat));
            Due.noSeat("areSame", () -> x.areSame(seat, 0));
            Due.noSeat("areSame", () -> x.areSame(0, seat));
            Due.noSeat("areSame", () -> x.areSame(seat, seat));
            Due.noSeat("code", () -> x.code(seat));
            Due.noSeat("codes", () -> x.codes(seat, 0, 0));
            Due.noSeat("codes", () -> x.codes(0, seat, 0));
            Due.noSeat("codes", () -> x.codes(0, 0, seat));
        }
        counts(x, 0, 0);
    }
}
