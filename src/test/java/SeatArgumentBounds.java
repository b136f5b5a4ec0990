import java.util.List;

/** "Throws IndexOutOfBoundsException if there is no such SEAT" of each promise: for each argument that is a SEAT. */
final class SeatArgumentBounds {

    /** A call with this number in the place of one SEAT; the other SEATS are there. */
    private interface Made {
        Object on(Checkdesk x, int seat);
    }

    private static final List<Integer> NO_SEATS = List.of(-1, 9, 10, -9, Bound.LOW, Bound.HIGH);

    private SeatArgumentBounds() {
    }

    static void run() {
        whatChangesSeats();
        whatIsOnSeats();
        whichComesFirst();
        whatIsThere();
    }

    private static void whatChangesSeats() {
        seat(2, (x, seat) -> x.write(seat, 6, -1, -1));
        seat(3, (x, seat) -> x.fill(seat, 6, 1));
        seat(4, (x, seat) -> x.cut(seat, 0, 0));
        seat(5, (x, seat) -> x.take(seat, 0, 0));
        seat(6, (x, seat) -> x.put(seat, 0, 6));
        seat(7, (x, seat) -> x.copy(seat, 0));
        seat(7, (x, seat) -> x.copy(0, seat));
        seat(7, (x, seat) -> x.copy(seat, seat));
        seat(8, (x, seat) -> x.leave(seat));
    }

    private static void whatIsOnSeats() {
        seat(15, (x, seat) -> x.insides(seat, 0));
        seat(16, (x, seat) -> x.text(seat));
        seat(17, (x, seat) -> x.length(seat));
        seat(18, (x, seat) -> x.signAt(seat, 0));
        seat(19, (x, seat) -> x.part(seat, 0, 0));
        seat(20, (x, seat) -> x.isEmpty(seat));
    }

    private static void whichComesFirst() {
        seat(21, (x, seat) -> x.compare(seat, 0));
        seat(21, (x, seat) -> x.compare(0, seat));
        seat(21, (x, seat) -> x.compare(seat, seat));
        seat(22, (x, seat) -> x.compareParts(seat, 0, 0, 0));
        seat(22, (x, seat) -> x.compareParts(0, seat, 0, 0));
        seat(22, (x, seat) -> x.compareParts(seat, seat, 0, 0));
        seat(23, (x, seat) -> x.isLike(0, seat));
        Bound.says("Promise 23", "- `paper`: a SEAT with a PAPER");
        seats((x, seat) -> x.isLike(seat, 0), List.of(0, 1, 2), List.of(-1, 3, 4, 5, 6, 7, 8, 9, Bound.LOW, Bound.HIGH));
        seat(24, (x, seat) -> x.order(seat, 0, 0));
        seat(24, (x, seat) -> x.order(0, seat, 0));
        seat(24, (x, seat) -> x.order(seat, seat, 0));
        seat(25, (x, seat) -> x.ahead(seat, 0));
    }

    private static void whatIsThere() {
        seat(26, (x, seat) -> x.must(seat));
        seat(27, (x, seat) -> x.mustSaying(seat));
        seat(28, (x, seat) -> x.orElse(seat, 0));
        seat(28, (x, seat) -> x.orElse(0, seat));
        seat(28, (x, seat) -> x.orElse(seat, seat));
        seat(29, (x, seat) -> x.orGiven(seat, 0));
        seat(29, (x, seat) -> x.orGiven(0, seat));
        seat(29, (x, seat) -> x.orGiven(seat, seat));
        seat(30, (x, seat) -> x.isMissing(seat));
        seat(31, (x, seat) -> x.isThere(seat));
        seat(32, (x, seat) -> x.areSame(seat, 0));
        seat(32, (x, seat) -> x.areSame(0, seat));
        seat(32, (x, seat) -> x.areSame(seat, seat));
        seat(33, (x, seat) -> x.code(seat));
        seat(34, (x, seat) -> x.codes(seat, 0, 0));
        seat(34, (x, seat) -> x.codes(0, seat, 0));
        seat(34, (x, seat) -> x.codes(0, 0, seat));
        seat(34, (x, seat) -> x.codes(seat, seat, seat));
    }

    private static void seat(int promise, Made made) {
        Bound.says(promise, Doc.line("Promise " + promise, "Throws `IndexOutOfBoundsException`"));
        seats(made, List.of(0, 1, 2, 3, 4, 5, 6, 7, 8), NO_SEATS);
    }

    private static void seats(Made made, List<Integer> seats, List<Integer> noSeats) {
        for (int seat : seats) {
            Object answer = Due.tried(() -> made.on(Bound.desk(), seat));
            Bound.is("SEAT " + seat + " is one", !Bound.NO_SEAT.equals(answer), true);
        }
        for (int seat : noSeats) {
            Bound.tells(Bound.desk(), "SEAT " + seat, Bound.NO_SEAT, x -> made.on(x, seat));
            Bound.tells(withoutTexts(), "SEAT " + seat + ", all others MISSING", Bound.NO_SEAT, x -> made.on(x, seat));
        }
    }

    private static Checkdesk withoutTexts() {
        Checkdesk x = new Checkdesk();
        for (int seat = 0; seat <= 8; seat++) {
            x.leave(seat);
        }
        return x;
    }
}
