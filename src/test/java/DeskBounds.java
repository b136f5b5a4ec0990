/** Promises 35 to 38: the desk. */
final class DeskBounds {

    private DeskBounds() {
    }

    static void run() {
        promise35();
        promise36Seats();
        promise36Counted();
        promise36();
        promise37();
        promise37Edges();
        promise38();
        promise38Edges();
    }

    private static void promise35() {
        Bound.says(35, "Knocks.");
        Checkdesk x = Bound.desk();
        String before = Bound.held(x);
        x.knock();
        Bound.is("nothing else changes", Bound.held(x), before);
        Bound.is("and nothing else is counted", x.house(2) + x.house(3) + x.house(4), 0);
        Bound.says(35, "Returns how often one knocked, with this.");
        Checkdesk knocked = new Checkdesk();
        Bound.is("the first", knocked.knock(), 1);
        Bound.is("the second", knocked.knock(), 2);
        Bound.is("told of as well", knocked.house(5), 2);
        Bound.is("the third", knocked.knock(), 3);
        Bound.is("on another desk", new Checkdesk().knock(), 1);
    }

    private static void promise36Seats() {
        Bound.says(36, "0 SIGNS on all SEATS,");
        Checkdesk x = new Checkdesk();
        Bound.tells(x, "none", 0, desk -> desk.house(0));
        for (int seat = 0; seat <= 8; seat++) {
            x.fill(seat, 9, 24);
            Bound.is("SEAT " + seat + " and all before", x.house(0), (seat + 1) * 24);
        }
        for (int seat = 0; seat <= 8; seat++) {
            x.leave(seat);
            Bound.is("SEAT " + seat + " and all before MISSING, none of them below 0", x.house(0), (8 - seat) * 24);
        }
        Bound.says(36, "1 how many are MISSING,");
        Checkdesk left = new Checkdesk();
        Bound.tells(left, "none, but all without SIGNS", 0, desk -> desk.house(1));
        for (int seat = 0; seat <= 8; seat++) {
            left.leave(seat);
            left.leave(seat);
            Bound.is("SEAT " + seat + " and all before", left.house(1), seat + 1);
        }
    }

    private static void promise36Counted() {
        Bound.says(36, "2 how often REFUSED was told,");
        Checkdesk x = Bound.desk();
        x.cut(0, 0, 3);
        x.part(0, 0, 3);
        x.orElse(1, 4);
        x.compare(1, 1);
        Bound.tells(x, "numbers and texts", 4, desk -> desk.house(2));
        Bound.tells(x, "what is not REFUSED", 0, desk -> desk.span(0, 0, 0));
        Bound.says(36, "3 how often an ORDER was ASKED (by order() and ahead()),");
        Checkdesk asked = Bound.desk();
        asked.order(0, 3, 2);
        asked.ahead(0, 1);
        asked.ahead(1, 1);
        Bound.is("1, 8 and 7", asked.house(3), 16);
        asked.compare(0, 3);
        asked.compareParts(0, 3, 0, 1);
        asked.areSame(0, 3);
        asked.isLike(0, 3);
        asked.isSound();
        asked.digest();
        Bound.is("by no others", asked.house(3), 16);
        Bound.says(36, "4 GIVEN,");
        Checkdesk given = Bound.desk();
        given.mustSaying(1);
        given.orGiven(1, 4);
        given.orGiven(4, 0);
        Bound.is("by mustSaying() and orGiven()", given.house(4), 3);
        given.must(1);
        given.orElse(1, 4);
        given.orElse(1, 0);
        given.mustSaying(0);
        given.orGiven(0, 1);
        Bound.is("by no others", given.house(4), 3);
        Bound.says(36, "5 how often one knocked");
        Checkdesk knocked = Bound.desk();
        for (int many = 0; many <= 3; many++) {
            Bound.tells(knocked, "time " + many, many, desk -> desk.house(5));
            knocked.knock();
        }
    }

    private static void promise36() {
        Bound.namesNone("Promise 36", "- `what`:");
        Bound.says(36, "Returns that.");
        Checkdesk x = eachCountOfItsOwn();
        int[] dues = {25, 2, 3, 9, 1, 4};
        for (int what = 0; what <= 5; what++) {
            int number = what;
            Bound.tells(x, "house of " + what, dues[what], desk -> desk.house(number));
        }
        Bound.says(36, "Throws `IllegalArgumentException` if what is not 0 to 5");
        for (int what : new int[] {-1, 6, -9, Bound.LOW, Bound.HIGH}) {
            Bound.tells(Bound.desk(), "what " + what, Bound.NO_ARGUMENT, desk -> desk.house(what));
        }
    }

    /** 25 SIGNS, 2 MISSING, 3 REFUSED, 9 ASKED, 1 GIVEN, 4 knocks. */
    private static Checkdesk eachCountOfItsOwn() {
        Checkdesk x = new Checkdesk();
        x.fill(0, 6, 24);
        x.fill(8, 9, 1);
        x.leave(3);
        x.leave(7);
        x.place(0, 0);
        x.part(3, 0, 0);
        x.mustSaying(3);
        x.order(0, 1, 0);
        x.ahead(8, 3);
        for (int knock = 0; knock < 4; knock++) {
            x.knock();
        }
        return x;
    }

    private static void promise37() {
        Bound.says(37, "Returns whether all of this is so (nothing of it is counted):");
        Bound.tells(eachCountOfItsOwn(), "nothing of it is counted", true, x -> x.isSound());
        Bound.says(37, "of each SEAT that is THERE, and the numbers -2 to 26: a PLACE lies inside just if the SPAN and the STRETCH of 1 do,"
                + " and the same is told of FAR ones; a SPAN lies inside just if the STRETCH of the difference does, and then its part has"
                + " as many SIGNS; the text COMPARED is 1 behind each of its beginnings that is shorter;");
        for (int many = 0; many <= 24; many++) {
            for (int sign = 0; sign <= 9; sign += 3) {
                Checkdesk x = new Checkdesk();
                x.fill(many % 9, sign, many);
                Bound.tells(x, many + " of SIGN " + sign, true, desk -> desk.isSound());
            }
        }
        Bound.tells(Bound.with(4, Bound.KINDS + Bound.KINDS), "unlike SIGNS", true, x -> x.isSound());
    }

    private static void promise37Edges() {
        Bound.says(37, "of each two SEATS that are THERE: COMPARED both ways the opposite; 0 just if the SIGNS are the same, and (of a"
                + " PAPER) its contents; then the CODES are the same; of each two SEATS and each ORDER: the opposite both ways; and of each"
                + " three that are THERE: what is COMPARED ahead of what is ahead of the third one is ahead of that.");
        Bound.tells(new Checkdesk(), "all alike", true, x -> x.isSound());
        Bound.tells(Bound.desk(), "some MISSING, some without SIGNS", true, x -> x.isSound());
        Bound.tells(full(), "all full, each its own", true, x -> x.isSound());
        Checkdesk rising = new Checkdesk();
        Checkdesk falling = new Checkdesk();
        Checkdesk left = new Checkdesk();
        for (int seat = 0; seat <= 8; seat++) {
            Bound.put(rising, seat, Bound.KINDS.substring(0, seat + 1));
            Bound.put(falling, seat, Bound.KINDS.substring(9 - seat));
            left.leave(seat);
        }
        Bound.tells(rising, "each a beginning of the next", true, x -> x.isSound());
        Bound.tells(falling, "each behind the next", true, x -> x.isSound());
        Bound.tells(left, "all MISSING", true, x -> x.isSound());
        for (int seat = 0; seat <= 8; seat++) {
            left.fill(seat, 9, 24);
            Bound.is("SEAT " + seat + " and all before THERE", left.isSound(), true);
        }
        left.leave(0);
        Bound.tells(left, "one MISSING", true, x -> x.isSound());
    }

    private static Checkdesk full() {
        Checkdesk x = new Checkdesk();
        for (int seat = 0; seat <= 8; seat++) {
            x.fill(seat, 9 - seat, 24);
        }
        return x;
    }

    private static void promise38() {
        Bound.says(38, "Computes a checksum. A number d starts with 7777; then d becomes d * 31 + v, which wraps around as a 64-bit integer,"
                + " for each v in this order: house() of 0 to 5; SEAT by SEAT length(), code(); SEAT by SEAT, and for it SEAT by SEAT, what"
                + " order() tells by 0, 1, 2 and 3");
        Bound.is("when new", new Checkdesk().digest(), checksum(new Checkdesk()));
        Bound.is("with some MISSING", Bound.desk().digest(), checksum(Bound.desk()));
        Bound.is("with each count of its own", eachCountOfItsOwn().digest(), checksum(eachCountOfItsOwn()));
        Bound.is("all full", full().digest(), checksum(full()));
        Bound.says(38, "(not counted as ASKED)");
        Checkdesk x = eachCountOfItsOwn();
        long first = x.digest();
        Bound.is("ASKED as before", x.house(3), 9);
        Bound.is("all as before", x.digest(), first);
        Bound.says(38, "; codes() of 0, 3, 6, of 1, 4, 7 and of 2, 5, 8; 1 if isSound(), otherwise 0.");
        for (int seat = 0; seat <= 8; seat++) {
            Checkdesk one = Bound.with(seat, "z\u00ff");
            Bound.is("SEAT " + seat + " alone", one.digest(), checksum(one));
        }
        Bound.says(38, "Returns d.");
        Bound.is("neither 0 nor an int", x.digest() != 0 && x.digest() != (int) x.digest(), true);
    }

    private static void promise38Edges() {
        Bound.says(38, "d becomes d * 31 + v, which wraps around as a 64-bit integer,");
        Checkdesk left = new Checkdesk();
        for (int seat = 0; seat <= 8; seat++) {
            left.leave(seat);
        }
        Bound.is("v below 0, all MISSING", left.digest(), checksum(left));
        Checkdesk below = Bound.with(0, "\u00ff".repeat(6));
        Bound.is("a CODE below 0", below.digest(), checksum(below));
        Bound.is("far behind 64 bits", full().digest(), checksum(full()));
    }

    /** The checksum of what the other methods tell, one by one; house() comes ahead of order(), that would count. */
    private static long checksum(Checkdesk x) {
        long d = 7777;
        for (int what = 0; what <= 5; what++) {
            d = d * 31 + x.house(what);
        }
        for (int seat = 0; seat <= 8; seat++) {
            d = d * 31 + x.length(seat);
            d = d * 31 + x.code(seat);
        }
        for (int one = 0; one <= 8; one++) {
            for (int other = 0; other <= 8; other++) {
                for (int order = 0; order <= 3; order++) {
                    d = d * 31 + x.order(one, other, order);
                }
            }
        }
        d = d * 31 + x.codes(0, 3, 6);
        d = d * 31 + x.codes(1, 4, 7);
        d = d * 31 + x.codes(2, 5, 8);
        return d * 31 + (x.isSound() ? 1 : 0);
    }
}
