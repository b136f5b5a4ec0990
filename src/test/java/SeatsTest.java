/** Promises 1 to 8: a new object, and what changes the SEATS. */
public final class SeatsTest {

    private static final int LOW = Integer.MIN_VALUE;
    private static final int HIGH = Integer.MAX_VALUE;

    public static void main(String[] args) {
        promise1();
        promise2();
        promise2Wrong();
        promise3();
        promise4();
        promise5();
        promise6();
        promise7();
        promise8();
        fullSeats();
        Due.end("SeatsTest");
    }

    private static void promise1() {
        Checkdesk x = new Checkdesk();
        for (int seat = 0; seat < 9; seat++) {
            Due.is("new text(" + seat + ")", x.text(seat), "");
            Due.is("new isThere(" + seat + ")", x.isThere(seat), true);
        }
        for (int what = 0; what <= 5; what++) {
            Due.is("new house(" + what + ")", x.house(what), 0);
        }
    }

    private static void promise2() {
        Checkdesk x = new Checkdesk();
        Due.is("write three", x.write(0, 0, 1, 2), 3);
        Due.is("write three more", x.write(0, 3, 4, 5), 6);
        Due.is("write all kinds", x.write(0, 6, 7, 8), 9);
        Due.is("write one", x.write(0, 9, -1, -1), 10);
        Due.is("all signs", x.text(0), " -01ABabz\u00ff");
        Due.is("write two", x.write(1, 6, 7, -1), 2);
        Due.is("two", x.text(1), "ab");
        Due.is("write none", x.write(1, -1, -1, -1), 2);
        Due.is("write behind the first NONE", x.write(1, -1, 6, 6), 2);
        Due.is("write behind the second NONE", x.write(1, 8, -1, 6), 3);
        Due.is("two and one", x.text(1), "abz");
        x.fill(2, 3, 21);
        Due.is("write to 24", x.write(2, 4, 5, 4), 24);
        Due.is("write none at 24", x.write(2, -1, 0, 0), 24);
        Due.is("24", x.text(2), "111111111111111111111ABA");
    }

    private static void promise2Wrong() {
        Checkdesk x = new Checkdesk();
        x.fill(2, 3, 22);
        x.leave(3);
        int[] seats = {-1, 9, LOW, HIGH};
        for (int seat : seats) {
            Due.noSeat("write(" + seat + ", 10, 10, 10)", () -> x.write(seat, 10, 10, 10));
        }
        int[] signs = {-2, 10, LOW, HIGH};
        for (int sign : signs) {
            Due.noArgument("write a", () -> x.write(3, sign, 0, 0));
            Due.noArgument("write b", () -> x.write(3, 0, sign, 0));
            Due.noArgument("write c", () -> x.write(3, 0, 0, sign));
            Due.noArgument("write behind NONE", () -> x.write(0, -1, -1, sign));
        }
        Due.noState("write on nothing", () -> x.write(3, 0, -1, -1));
        Due.noState("write none on nothing", () -> x.write(3, -1, -1, -1));
        Due.noState("write too many", () -> x.write(2, 0, 0, 0));
        Due.is("nothing written", x.text(2), "1111111111111111111111");
        Due.is("still missing", x.isMissing(3), true);
        Due.is("still empty", x.length(0), 0);
        Due.is("nothing refused", x.house(2), 0);
    }

    private static void promise3() {
        Checkdesk x = new Checkdesk();
        Due.is("fill the new", x.fill(4, 9, 24), 0);
        Due.is("fill again", x.fill(4, 7, 3), 24);
        Due.is("filled", x.text(4), "bbb");
        Due.is("fill none", x.fill(4, 7, 0), 3);
        Due.is("emptied", x.text(4), "");
        x.leave(4);
        Due.is("fill nothing", x.fill(4, 0, 1), -1);
        Due.is("filled from nothing", x.text(4), " ");
        x.leave(5);
        x.fill(5, 1, 0);
        Due.is("THERE without signs", x.isThere(5), true);
        Due.noSeat("fill no seat", () -> x.fill(9, -1, 25));
        Due.noSeat("fill no seat below", () -> x.fill(-1, 0, 0));
        Due.noArgument("fill NONE", () -> x.fill(4, -1, 0));
        Due.noArgument("fill no sign", () -> x.fill(4, 10, 0));
        Due.noArgument("fill 25", () -> x.fill(4, 0, 25));
        Due.noArgument("fill -1", () -> x.fill(4, 0, -1));
        Due.noArgument("fill low", () -> x.fill(4, 0, LOW));
        Due.noArgument("fill high", () -> x.fill(4, 0, HIGH));
        Due.is("unchanged", x.text(4), " ");
    }

    private static void promise4() {
        Checkdesk x = new Checkdesk();
        x.write(6, 4, 5, 6);
        x.write(6, 7, 8, -1);
        Due.is("cut the middle", x.cut(6, 1, 4), 3);
        Due.is("the middle", x.text(6), "Bab");
        Due.is("cut all", x.cut(6, 0, 3), 3);
        Due.is("all", x.text(6), "Bab");
        int[][] spans = {{-1, 2}, {0, 4}, {2, 1}, {4, 4}, {LOW, HIGH}, {HIGH, HIGH}, {LOW, LOW}, {0, HIGH}, {3, LOW}};
        for (int[] span : spans) {
            Due.is("cut " + span[0] + " " + span[1], x.cut(6, span[0], span[1]), -9);
        }
        Due.is("refused", x.house(2), spans.length);
        Due.is("still all", x.text(6), "Bab");
        Due.is("cut the end", x.cut(6, 3, 3), 0);
        Due.is("nothing left, but there", x.text(6), "");
        x.leave(6);
        Due.noSeat("cut no seat", () -> x.cut(9, 0, 0));
        Due.noSeat("cut no seat below", () -> x.cut(-1, 0, 0));
        Due.noState("cut nothing", () -> x.cut(6, 0, 0));
        Due.noState("cut nothing, outside", () -> x.cut(6, -1, 0));
        Due.is("refused as before", x.house(2), spans.length);
    }

    private static void promise5() {
        Checkdesk x = new Checkdesk();
        x.write(7, 4, 5, 6);
        x.write(7, 7, 8, -1);
        Due.is("take the middle", x.take(7, 1, 3), 3);
        Due.is("the middle", x.text(7), "Bab");
        Due.is("take all", x.take(7, 0, 3), 3);
        int[][] stretches = {{-1, 2}, {0, 4}, {2, -1}, {4, 0}, {3, 1}, {LOW, HIGH}, {HIGH, 1}, {HIGH, HIGH}, {1, HIGH}};
        for (int[] stretch : stretches) {
            Due.is("take " + stretch[0] + " " + stretch[1], x.take(7, stretch[0], stretch[1]), -9);
        }
        Due.is("refused", x.house(2), stretches.length);
        Due.is("still all", x.text(7), "Bab");
        Due.is("take the last two", x.take(7, 1, 2), 2);
        Due.is("the last two", x.text(7), "ab");
        Due.is("take none at the end", x.take(7, 2, 0), 0);
        Due.is("nothing left, but there", x.isEmpty(7), true);
        x.leave(7);
        Due.noSeat("take no seat", () -> x.take(9, 0, 0));
        Due.noSeat("take no seat below", () -> x.take(-1, 0, 0));
        Due.noState("take nothing", () -> x.take(7, 0, 0));
    }

    private static void promise6() {
        Checkdesk x = new Checkdesk();
        x.write(8, 4, 5, 6);
        x.leave(1);
        Due.is("put first", x.put(8, 0, 9), 4);
        Due.is("put last", x.put(8, 2, 0), 6);
        Due.is("put the same", x.put(8, 1, 5), 5);
        Due.is("put all", x.text(8), "\u00ffB ");
        Due.is("put behind", x.put(8, 3, 0), -9);
        Due.is("put ahead", x.put(8, -1, 0), -9);
        Due.is("put low", x.put(8, LOW, 0), -9);
        Due.is("put high", x.put(8, HIGH, 0), -9);
        Due.is("put into the empty", x.put(0, 0, 0), -9);
        Due.is("refused", x.house(2), 5);
        Due.is("put nothing more", x.text(8), "\u00ffB ");
        Due.noSeat("put no seat", () -> x.put(9, 0, 10));
        Due.noSeat("put no seat below", () -> x.put(-1, 0, 0));
        Due.noArgument("put NONE", () -> x.put(1, 9, -1));
        Due.noArgument("put no sign", () -> x.put(8, 9, 10));
        Due.noState("put on nothing", () -> x.put(1, 0, 0));
        Due.noState("put on nothing, outside", () -> x.put(1, -1, 0));
        Due.is("refused as before", x.house(2), 5);
    }

    private static void promise7() {
        Checkdesk x = new Checkdesk();
        x.write(0, 6, 7, -1);
        Due.is("copy", x.copy(4, 0), 2);
        Due.is("copied", x.text(4), "ab");
        x.put(0, 0, 8);
        Due.is("a thing of its own", x.text(4), "ab");
        x.put(4, 1, 9);
        Due.is("and the other way", x.text(0), "zb");
        x.fill(8, 3, 24);
        Due.is("copy fewer over more", x.copy(8, 4), 2);
        Due.is("fewer", x.text(8), "a\u00ff");
        Due.is("copy on itself", x.copy(8, 8), 2);
        Due.is("itself", x.text(8), "a\u00ff");
        Due.is("copy the empty", x.copy(8, 5), 0);
        Due.is("the empty is there", x.isThere(8), true);
        x.leave(5);
        Due.is("copy nothing", x.copy(0, 5), -1);
        Due.is("nothing", x.isMissing(0), true);
        Due.is("copy nothing on itself", x.copy(5, 5), -1);
        Due.is("copy over nothing", x.copy(5, 4), 2);
        Due.is("over nothing", x.text(5), "a\u00ff");
        Due.noSeat("copy to no seat", () -> x.copy(9, 0));
        Due.noSeat("copy from no seat", () -> x.copy(0, 9));
        Due.noSeat("copy to no seat below", () -> x.copy(-1, 0));
        Due.noSeat("copy from no seat below", () -> x.copy(0, -1));
        Due.is("nothing copied", x.isMissing(0), true);
    }

    private static void promise8() {
        Checkdesk x = new Checkdesk();
        x.write(3, 6, 7, 8);
        Due.is("leave", x.leave(3), 3);
        Due.is("left", x.isMissing(3), true);
        Due.is("leave again", x.leave(3), -1);
        Due.is("leave the empty", x.leave(4), 0);
        Due.is("two are missing", x.house(1), 2);
        Due.is("nothing refused", x.house(2), 0);
        Due.noSeat("leave no seat", () -> x.leave(9));
        Due.noSeat("leave no seat below", () -> x.leave(-1));
    }

    /** What is done to a full text stays on its SEAT. */
    private static void fullSeats() {
        String[] texts = new String[9];
        Checkdesk x = new Checkdesk();
        for (int seat = 0; seat < 9; seat++) {
            x.fill(seat, seat, 24);
            texts[seat] = x.text(seat);
        }
        for (int seat = 0; seat < 9; seat++) {
            int from = (seat + 5) % 9;
            String before = x.text(seat);
            Due.is("copy 24", x.copy(seat, from), 24);
            Due.is("24 copied", x.text(seat), texts[from]);
            Due.is("cut 24", x.cut(seat, 0, 24), 24);
            Due.is("take 24", x.take(seat, 0, 24), 24);
            Due.is("fill 24", x.fill(seat, seat, 24), 24);
            Due.is("24 as before", x.text(seat), before);
            Due.is("put at 23", x.put(seat, 23, seat), seat);
            for (int other = 0; other < 9; other++) {
                Due.is("all as before", x.text(other), texts[other]);
            }
        }
    }
}
