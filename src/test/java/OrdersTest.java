/** Promises 21 to 25: which comes first. */
public final class OrdersTest {

    public static void main(String[] args) {
        promise21();
        promise22();
        promise23();
        promise24();
        promise24Asked();
        promise25();
        wrongInputs();
        Due.end("OrdersTest");
    }

    /** 0 "", 1 "a", 2 "aa", 3 "ab", 4 "b", 5 "aa", 6 code 255, 7 "   ", 8 nothing. */
    private static Checkdesk desk() {
        Checkdesk x = new Checkdesk();
        x.fill(1, 6, 1);
        x.fill(2, 6, 2);
        x.write(3, 6, 7, -1);
        x.fill(4, 7, 1);
        x.fill(5, 6, 2);
        x.fill(6, 9, 1);
        x.fill(7, 0, 3);
        x.leave(8);
        return x;
    }

    private static void both(Checkdesk x, int one, int other, int due) {
        Due.is("compare " + one + " " + other, x.compare(one, other), due);
        Due.is("compare " + other + " " + one, x.compare(other, one), -due);
    }

    private static void promise21() {
        Checkdesk x = desk();
        both(x, 0, 0, 0);
        both(x, 0, 1, -1);
        both(x, 1, 2, -1);
        both(x, 2, 3, -1);
        both(x, 3, 4, -1);
        both(x, 2, 5, 0);
        both(x, 2, 4, -1);
        both(x, 4, 6, -1);
        both(x, 7, 1, -1);
        both(x, 0, 7, -1);
        for (int sign = 1; sign < 10; sign++) {
            x.fill(0, sign - 1, 2);
            x.fill(1, sign, 1);
            both(x, 0, 1, -1);
        }
        Due.is("nothing refused or asked", x.house(2) + x.house(3), 0);
        Due.is("compare with nothing", x.compare(0, 8), -9);
        Due.is("compare nothing", x.compare(8, 0), -9);
        Due.is("compare nothing with itself", x.compare(8, 8), -9);
        Due.is("refused", x.house(2), 3);
    }

    private static void promise22() {
        Checkdesk x = desk();
        x.write(1, 7, 8, 4);
        Due.is("parts that are alike", x.compareParts(2, 3, 0, 1), 0);
        Due.is("parts", x.compareParts(2, 3, 0, 2), -1);
        Due.is("parts, the other way", x.compareParts(3, 2, 1, 2), 1);
        Due.is("parts without signs", x.compareParts(2, 4, 1, 1), 0);
        Due.is("parts of the empty", x.compareParts(0, 6, 0, 0), 0);
        Due.is("parts of more", x.compareParts(1, 3, 0, 2), 0);
        Due.is("parts behind the unlike ones", x.compareParts(4, 6, 1, 1), 0);
        Due.is("parts of the same", x.compareParts(7, 7, 0, 3), 0);
        Due.is("nothing refused", x.house(2), 0);
        Due.is("outside of the first", x.compareParts(3, 7, 0, 3), -9);
        Due.is("outside of the second", x.compareParts(7, 3, 0, 3), -9);
        Due.is("outside of both", x.compareParts(2, 3, 3, 3), -9);
        Due.is("turned", x.compareParts(2, 3, 2, 1), -9);
        Due.is("below", x.compareParts(2, 3, -1, 1), -9);
        Due.is("high", x.compareParts(2, 3, Integer.MIN_VALUE, Integer.MAX_VALUE), -9);
        Due.is("nothing first", x.compareParts(8, 0, 0, 0), -9);
        Due.is("nothing second", x.compareParts(0, 8, 0, 0), -9);
        Due.is("nothing twice", x.compareParts(8, 8, 0, 0), -9);
        Due.is("refused", x.house(2), 9);
    }

    private static void promise23() {
        Checkdesk x = desk();
        Due.is("like", x.isLike(2, 5), 1);
        Due.is("like itself", x.isLike(2, 2), 1);
        Due.is("unlike, as many", x.isLike(2, 3), 0);
        Due.is("unlike, fewer", x.isLike(1, 2), 0);
        Due.is("unlike, more", x.isLike(2, 1), 0);
        Due.is("empty", x.isLike(0, 4), 0);
        x.fill(4, 0, 0);
        Due.is("both empty", x.isLike(0, 4), 1);
        Due.is("nothing refused", x.house(2), 0);
        Due.is("nothing", x.isLike(0, 8), -9);
        Due.is("refused", x.house(2), 1);
        x.leave(1);
        Due.noState("a missing paper", () -> x.isLike(1, 0));
        Due.noState("a missing paper, and nothing", () -> x.isLike(1, 8));
        Due.noState("a missing paper, and itself", () -> x.isLike(1, 1));
        Due.noSeat("no paper", () -> x.isLike(3, 0));
        Due.noSeat("no paper below", () -> x.isLike(-1, 0));
        Due.noSeat("no paper behind", () -> x.isLike(9, 0));
        Due.noSeat("no seat, before the missing paper", () -> x.isLike(1, 9));
        Due.noSeat("no seat below", () -> x.isLike(0, -1));
        Due.is("refused as before", x.house(2), 1);
    }

    private static void ordered(Checkdesk x, int one, int other, int... dues) {
        for (int order = 0; order < 4; order++) {
            Due.is("order " + one + " " + other + " by " + order, x.order(one, other, order), dues[order]);
            Due.is("order " + other + " " + one + " by " + order, x.order(other, one, order), -dues[order]);
        }
    }

    private static void promise24() {
        Checkdesk x = desk();
        ordered(x, 0, 1, -1, 1, -1, -1);
        ordered(x, 1, 2, -1, 1, -1, -1);
        ordered(x, 2, 3, -1, 1, -1, 1);
        ordered(x, 2, 5, 0, 0, 0, 0);
        ordered(x, 2, 4, -1, 1, 1, 1);
        ordered(x, 3, 4, -1, 1, 1, 1);
        ordered(x, 4, 6, -1, 1, -1, 0);
        ordered(x, 7, 1, -1, 1, 1, -1);
        ordered(x, 7, 4, -1, 1, 1, 0);
        ordered(x, 1, 3, -1, 1, -1, 0);
        for (int other = 0; other < 8; other++) {
            ordered(x, 8, other, -1, -1, -1, -1);
        }
        ordered(x, 8, 8, 0, 0, 0, 0);
        ordered(x, 3, 3, 0, 0, 0, 0);
        x.leave(7);
        ordered(x, 7, 8, 0, 0, 0, 0);
        x.fill(3, 6, 3);
        x.cut(3, 0, 2);
        ordered(x, 2, 3, 0, 0, 0, 0);
        x.fill(7, 6, 24);
        x.fill(8, 6, 24);
        ordered(x, 7, 8, 0, 0, 0, 0);
        Due.is("nothing refused", x.house(2), 0);
    }

    private static void promise24Asked() {
        Checkdesk x = desk();
        x.leave(7);
        x.order(0, 1, 0);
        Due.is("asked", x.house(3), 1);
        x.order(2, 5, 3);
        Due.is("asked of alike ones", x.house(3), 2);
        x.order(0, 8, 1);
        x.order(8, 0, 2);
        Due.is("asked of one that is missing", x.house(3), 4);
        x.order(7, 8, 0);
        Due.is("not asked of two that are missing", x.house(3), 4);
        x.order(3, 3, 0);
        x.order(8, 8, 0);
        Due.is("not asked of the same", x.house(3), 4);
    }

    private static void promise25() {
        Checkdesk x = desk();
        int[][] dues = {{1, 3, 4, 6, 7, 4, 8, 2, 0}, {8, 6, 4, 3, 2, 4, 1, 7, 0}, {1, 2, 5, 7, 3, 5, 4, 8, 0}, {1, 5, 7, 5, 1, 7, 1, 1, 0}};
        int asked = 0;
        for (int order = 0; order < 4; order++) {
            for (int seat = 0; seat < 9; seat++) {
                Due.is("ahead of " + seat + " by " + order, x.ahead(seat, order), dues[order][seat]);
                asked += 8;
                Due.is("asked for each of the other eight", x.house(3), asked);
            }
        }
        x.leave(0);
        x.leave(3);
        Due.is("ahead of nothing", x.ahead(0, 2), 0);
        Due.is("asked of those that are there", x.house(3), asked + 6);
        Due.is("ahead, all that is missing", x.ahead(7, 1), 8);
        Due.is("asked of all", x.house(3), asked + 14);
    }

    private static void wrongInputs() {
        Checkdesk x = desk();
        int[] seats = {-1, 9, Integer.MIN_VALUE, Integer.MAX_VALUE};
        for (int seat : seats) {
            Due.noSeat("compare", () -> x.compare(seat, 8));
            Due.noSeat("compare", () -> x.compare(8, seat));
            Due.noSeat("compareParts", () -> x.compareParts(seat, 8, -1, -1));
            Due.noSeat("compareParts", () -> x.compareParts(8, seat, -1, -1));
            Due.noSeat("order", () -> x.order(seat, 0, 4));
            Due.noSeat("order", () -> x.order(0, seat, 4));
            Due.noSeat("ahead", () -> x.ahead(seat, 4));
        }
        int[] orders = {-1, 4, Integer.MIN_VALUE, Integer.MAX_VALUE};
        for (int order : orders) {
            Due.noArgument("order", () -> x.order(0, 1, order));
            Due.noArgument("order of the same", () -> x.order(8, 8, order));
            Due.noArgument("ahead", () -> x.ahead(0, order));
        }
        Due.is("nothing refused or asked", x.house(2) + x.house(3), 0);
    }
}
