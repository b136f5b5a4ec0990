/** Promises 35 to 38: the desk. (OracleTest computes digest() on its own, too.) */
public final class DeskTest {

    public static void main(String[] args) {
        promise35();
        promise36();
        promise37();
        promise38();
        Due.end("DeskTest");
    }

    private static void promise35() {
        Checkdesk x = new Checkdesk();
        for (int many = 1; many <= 5; many++) {
            Due.is("knock", x.knock(), many);
        }
        Due.is("another desk", new Checkdesk().knock(), 1);
    }

    private static void promise36() {
        Checkdesk x = new Checkdesk();
        x.fill(0, 6, 24);
        x.fill(8, 6, 3);
        Due.is("signs", x.house(0), 27);
        x.leave(0);
        x.leave(1);
        Due.is("signs of what is there", x.house(0), 3);
        Due.is("missing", x.house(1), 2);
        x.place(0, 0);
        x.part(0, 0, 0);
        x.orElse(0, 1);
        Due.is("refused, numbers and texts", x.house(2), 3);
        x.ahead(8, 0);
        x.order(0, 8, 3);
        Due.is("asked", x.house(3), 9);
        x.mustSaying(0);
        x.orGiven(0, 1);
        x.orGiven(1, 8);
        Due.is("given", x.house(4), 3);
        Due.is("refused again", x.house(2), 5);
        x.knock();
        x.knock();
        Due.is("knocked", x.house(5), 2);
        int[] wrong = {-1, 6, Integer.MIN_VALUE, Integer.MAX_VALUE};
        for (int what : wrong) {
            Due.noArgument("house(" + what + ")", () -> x.house(what));
        }
    }

    private static void promise37() {
        Checkdesk x = new Checkdesk();
        Due.is("sound when new", x.isSound(), true);
        x.fill(0, 9, 24);
        x.fill(1, 9, 23);
        x.write(3, 6, 7, 8);
        x.copy(8, 3);
        x.leave(4);
        x.leave(5);
        Due.is("sound", x.isSound(), true);
        for (int what = 2; what <= 5; what++) {
            Due.is("nothing of it is counted", x.house(what), 0);
        }
        Due.is("nothing changed", x.text(3), "abz");
        for (int seat = 0; seat < 9; seat++) {
            x.leave(seat);
        }
        Due.is("sound with nothing", x.isSound(), true);
    }

    private static void promise38() {
        Checkdesk x = new Checkdesk();
        Due.is("digest when new", x.digest(), digestOfEmptyDesk(0));
        x.knock();
        Due.is("digest after a knock", x.digest(), digestOfEmptyDesk(1));
        Due.is("digest again", x.digest(), digestOfEmptyDesk(1));
        for (int what = 0; what <= 4; what++) {
            Due.is("nothing of it is counted", x.house(what), 0);
        }
        x.write(0, 6, 7, 8);
        x.fill(1, 6, 2);
        x.fill(3, 9, 24);
        x.copy(7, 0);
        x.leave(4);
        x.leave(5);
        x.mustSaying(4);
        x.place(1, 1);
        x.order(0, 1, 2);
        long digest = x.digest();
        Due.is("digest once more", x.digest(), digest);
        Due.is("digest of what is told", digest, digestOfAnswers(x));
    }

    /** The checksum of what the other methods tell; order() is ASKED behind house(), so it does not matter. */
    private static long digestOfAnswers(Checkdesk x) {
        long d = 7777;
        for (int what = 0; what <= 5; what++) {
            d = d * 31 + x.house(what);
        }
        for (int seat = 0; seat < 9; seat++) {
            d = d * 31 + x.length(seat);
            d = d * 31 + x.code(seat);
        }
        for (int one = 0; one < 9; one++) {
            for (int other = 0; other < 9; other++) {
                for (int order = 0; order < 4; order++) {
                    d = d * 31 + x.order(one, other, order);
                }
            }
        }
        d = d * 31 + x.codes(0, 3, 6);
        d = d * 31 + x.codes(1, 4, 7);
        d = d * 31 + x.codes(2, 5, 8);
        return d * 31 + 1;
    }

    /** All that is told of empty texts is 0, but for the knocks, the codes of three, and that it is sound. */
    private static long digestOfEmptyDesk(int knocks) {
        long d = 7777;
        for (int what = 0; what < 5; what++) {
            d *= 31;
        }
        d = d * 31 + knocks;
        for (int zero = 0; zero < 18 + 324; zero++) {
            d *= 31;
        }
        for (int three = 0; three < 3; three++) {
            d = d * 31 + 29791;
        }
        return d * 31 + 1;
    }
}
