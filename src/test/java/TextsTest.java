/** Promises 16 to 20: what is on SEATS. */
public final class TextsTest {

    private static final int LOW = Integer.MIN_VALUE;
    private static final int HIGH = Integer.MAX_VALUE;

    public static void main(String[] args) {
        Checkdesk x = new Checkdesk();
        for (int sign = 0; sign < 10; sign += 2) {
            x.write(5, sign, sign + 1, -1);
        }
        x.leave(2);
        promises16And17(x);
        promise18(x);
        promise19(x);
        promise20(x);
        Due.is("nothing changed", x.text(5), " -01ABabz\u00ff");
        Due.end("TextsTest");
    }

    private static void promises16And17(Checkdesk x) {
        Due.is("text", x.text(5), " -01ABabz\u00ff");
        Due.is("text of the empty", x.text(0), "");
        Due.is("text of nothing", x.text(2), "none");
        Due.is("length", x.length(5), 10);
        Due.is("length of the empty", x.length(0), 0);
        Due.is("length of nothing", x.length(2), -1);
        Due.is("nothing refused", x.house(2), 0);
        int[] seats = {-1, 9, LOW, HIGH};
        for (int seat : seats) {
            Due.noSeat("text(" + seat + ")", () -> x.text(seat));
            Due.noSeat("length(" + seat + ")", () -> x.length(seat));
        }
    }

    private static void promise18(Checkdesk x) {
        for (int place = 0; place < 10; place++) {
            Due.is("signAt " + place, x.signAt(5, place), place);
        }
        int refused = x.house(2);
        int[] places = {-1, 10, LOW, HIGH};
        for (int place : places) {
            Due.is("signAt " + place, x.signAt(5, place), -9);
        }
        Due.is("signAt of nothing", x.signAt(2, 0), -9);
        Due.is("signAt of the empty", x.signAt(0, 0), -9);
        Due.is("refused", x.house(2), refused + 6);
        Due.noSeat("signAt of no seat", () -> x.signAt(9, 0));
        Due.noSeat("signAt of no seat below", () -> x.signAt(-1, -1));
    }

    private static void promise19(Checkdesk x) {
        int refused = x.house(2);
        Due.is("part", x.part(5, 4, 7), "ABa");
        Due.is("part, whole", x.part(5, 0, 10), " -01ABabz\u00ff");
        Due.is("part at the end", x.part(5, 10, 10), "");
        Due.is("part of the empty", x.part(0, 0, 0), "");
        Due.is("nothing refused", x.house(2), refused);
        int[][] spans = {{-1, 2}, {0, 11}, {2, 1}, {11, 11}, {LOW, HIGH}, {HIGH, LOW}, {HIGH, HIGH}, {-1, -1}};
        for (int[] span : spans) {
            Due.is("part " + span[0] + " " + span[1], x.part(5, span[0], span[1]), "!");
        }
        Due.is("part of nothing", x.part(2, 0, 0), "!");
        Due.is("refused", x.house(2), refused + spans.length + 1);
        Due.noSeat("part of no seat", () -> x.part(9, 0, 0));
        Due.noSeat("part of no seat below", () -> x.part(-1, 5, 0));
    }

    private static void promise20(Checkdesk x) {
        Due.is("isEmpty", x.isEmpty(5), false);
        Due.is("isEmpty of the empty", x.isEmpty(0), true);
        Due.noSeat("isEmpty of no seat", () -> x.isEmpty(9));
        Due.noSeat("isEmpty of no seat below", () -> x.isEmpty(-1));
        Due.noState("isEmpty of nothing", () -> x.isEmpty(2));
    }
}
