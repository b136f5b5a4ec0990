import java.util.List;

/** "1. Seats, texts" and promises 1 to 8. */
final class SeatsBounds {

    private static final String FULL = "b".repeat(24);

    private SeatsBounds() {
    }

    static void run() {
        signs();
        seats();
        kinds();
        atMost24();
        noneAtFirst();
        placesFromZero();
        orMissing();
        promise1();
        promise2();
        promise2Throws();
        promise3();
        promise4();
        promise5();
        promise6();
        promise7();
        promise8();
    }

    private static void signs() {
        Bound.says("1", "SIGNS, by numbers: 0 the blank (code 32), 1 \"-\" (45), 2 \"0\" (48), 3 \"1\" (49), 4 \"A\" (65), 5 \"B\" (66),"
                + " 6 \"a\" (97), 7 \"b\" (98), 8 \"z\" (122), 9 that of the code 255.");
        int[] codes = {32, 45, 48, 49, 65, 66, 97, 98, 122, 255};
        for (int sign = 0; sign <= 9; sign++) {
            int number = sign;
            String text = String.valueOf((char) codes[sign]);
            Checkdesk x = new Checkdesk();
            Bound.changes(x, "SIGN " + sign, 1, 0, text, desk -> desk.write(0, number, -1, -1));
            Bound.tells(x, "its number", number, desk -> desk.signAt(0, 0));
            Bound.tells(x, "its code", codes[number], desk -> desk.code(0));
        }
        Bound.tells(Bound.desk(), "SIGN 10", Bound.NO_ARGUMENT, x -> x.fill(0, 10, 1));
        Bound.tells(Bound.desk(), "SIGN -1", Bound.NO_ARGUMENT, x -> x.fill(0, -1, 1));
    }

    private static void seats() {
        Bound.says("1", "SEATS 0 to 8:");
        for (int seat = 0; seat <= 8; seat++) {
            int number = seat;
            Bound.changes(Bound.desk(), "SEAT " + seat, Bound.desk().length(seat), seat, "zz", x -> x.fill(number, 8, 2));
        }
        Bound.tells(Bound.desk(), "SEAT -1", Bound.NO_SEAT, x -> x.fill(-1, 8, 2));
        Bound.tells(Bound.desk(), "SEAT 9", Bound.NO_SEAT, x -> x.fill(9, 8, 2));
    }

    private static void kinds() {
        Bound.says("1", "0 to 2 have PAPERS, 3 to 5 SLATES, 6 to 8 BOARDS (three kinds of texts; nothing told hangs on the kind, but"
                + " where PAPERS alone are asked).");
        for (int seat = 0; seat <= 2; seat++) {
            Bound.is("SEAT " + seat + " has a PAPER", new Checkdesk().isLike(seat, 3), 1);
        }
        for (int seat = 3; seat <= 8; seat++) {
            int number = seat;
            Bound.tells(new Checkdesk(), "SEAT " + seat + " has none", Bound.NO_SEAT, x -> x.isLike(number, 0));
        }
        String papers = toldOf(0, 1, 2);
        Bound.is("SLATES as PAPERS", toldOf(3, 4, 5), papers);
        Bound.is("BOARDS as PAPERS", toldOf(6, 7, 8), papers);
        Bound.is("a PAPER, a SLATE and a BOARD", toldOf(2, 3, 7), papers);
        Bound.is("a BOARD, a PAPER and a SLATE", toldOf(8, 0, 5), papers);
    }

    /** What is told of three SEATS. */
    private static String toldOf(int one, int other, int third) {
        Checkdesk x = new Checkdesk();
        StringBuilder told = new StringBuilder();
        told.append(x.write(one, 6, 9, 6)).append(x.fill(other, 6, 24)).append(x.copy(third, one)).append(x.put(one, 1, 0));
        told.append(x.cut(other, 4, 24)).append(x.take(other, 1, 2)).append(x.leave(third)).append(x.insides(one, 2));
        told.append(x.text(one)).append(x.length(other)).append(x.signAt(one, 1)).append(x.part(one, 1, 3)).append(x.isEmpty(one));
        told.append(x.compare(one, other)).append(x.compareParts(one, other, 0, 1)).append(x.compare(one, third));
        for (int order = 0; order < 4; order++) {
            told.append(x.order(one, other, order)).append(x.order(other, third, order));
            told.append(x.ahead(one, order)).append(x.ahead(third, order));
        }
        told.append(x.must(one)).append(x.mustSaying(third)).append(x.orElse(third, other)).append(x.orGiven(third, one));
        told.append(x.isMissing(third)).append(x.isThere(third)).append(x.areSame(one, other)).append(x.code(one));
        return told.append(x.codes(one, other, third)).append(x.house(0)).append(x.isSound()).toString();
    }

    private static void atMost24() {
        Bound.says("1", "What is on a SEAT is THERE, a row of at most 24 SIGNS");
        Bound.changes(new Checkdesk(), "24 by fill", 0, 3, FULL, x -> x.fill(3, 7, 24));
        Bound.tells(new Checkdesk(), "25 by fill", Bound.NO_ARGUMENT, x -> x.fill(3, 7, 25));
        for (int seat = 0; seat <= 8; seat++) {
            int number = seat;
            Checkdesk x = new Checkdesk();
            for (int many = 3; many <= 24; many += 3) {
                Bound.is("write", x.write(seat, 7, 7, 7), many);
            }
            Bound.is("24 by write", x.text(seat), FULL);
            Bound.tells(x, "25 by write", Bound.NO_STATE, desk -> desk.write(number, 7, -1, -1));
        }
    }

    private static void noneAtFirst() {
        Bound.says("1", "(none at first;");
        for (int seat = 0; seat <= 8; seat++) {
            Bound.is("SEAT " + seat, new Checkdesk().length(seat), 0);
        }
    }

    private static void placesFromZero() {
        Bound.says("1", "its PLACES from 0 on)");
        Checkdesk x = Bound.with(5, "zab");
        Bound.tells(x, "PLACE 0", 8, desk -> desk.signAt(5, 0));
        Bound.tells(x, "PLACE 2", 7, desk -> desk.signAt(5, 2));
        Bound.refuses(x, "PLACE 3", desk -> desk.signAt(5, 3));
        Bound.refuses(x, "PLACE -1", desk -> desk.signAt(5, -1));
    }

    private static void orMissing() {
        Bound.says("1", ", or MISSING.");
        Checkdesk x = Bound.with(0, "");
        x.leave(4);
        Bound.tells(x, "MISSING is not without SIGNS", -1, desk -> desk.length(4));
        Bound.tells(x, "without SIGNS is not MISSING", 0, desk -> desk.length(0));
        Bound.tells(x, "they are not the same", false, desk -> desk.areSame(0, 4));
        Bound.tells(x, "what has no SIGNS is THERE", true, desk -> desk.isThere(0));
        Bound.tells(x, "what is MISSING is not", false, desk -> desk.isThere(4));
    }

    private static void promise1() {
        Bound.says(1, "Creates a desk with nine empty texts.");
        Checkdesk x = new Checkdesk();
        for (int seat = 0; seat <= 8; seat++) {
            Bound.is("text of " + seat, x.text(seat), "");
            Bound.is("isThere of " + seat, x.isThere(seat), true);
        }
        for (int what = 0; what <= 5; what++) {
            Bound.is("house of " + what, x.house(what), 0);
        }
        x.fill(0, 6, 3);
        x.knock();
        Bound.is("another one is another desk", new Checkdesk().house(0) + new Checkdesk().house(5), 0);
    }

    private static void promise2() {
        Bound.says(2, "Adds up to three SIGNS, up to the first NONE of them.");
        Bound.changes(Bound.desk(), "none", 2, 0, "ab", x -> x.write(0, -1, -1, -1));
        Bound.changes(Bound.desk(), "one", 3, 0, "ab ", x -> x.write(0, 0, -1, -1));
        Bound.changes(Bound.desk(), "two", 4, 0, "ab \u00ff", x -> x.write(0, 0, 9, -1));
        Bound.changes(Bound.desk(), "three", 5, 0, "ab \u00ffA", x -> x.write(0, 0, 9, 4));
        Bound.changes(Bound.desk(), "NONE and two behind it", 2, 0, "ab", x -> x.write(0, -1, 8, 8));
        Bound.changes(Bound.desk(), "NONE in the middle", 3, 0, "abz", x -> x.write(0, 8, -1, 8));
        Bound.changes(Bound.desk(), "NONE, a SIGN, NONE", 2, 0, "ab", x -> x.write(0, -1, 8, -1));
        for (String argument : List.of("- `a`: a SIGN, or NONE", "- `b`: likewise - `c`: likewise")) {
            Bound.says(2, argument);
            for (int sign = 0; sign <= 9; sign++) {
                int number = sign;
                String text = Bound.KINDS.substring(sign, sign + 1).repeat(3);
                Bound.changes(new Checkdesk(), "SIGN " + sign, 3, 8, text, x -> x.write(8, number, number, number));
            }
        }
        Bound.says(2, "Returns how many it has then.");
        Bound.is("three on a new one", new Checkdesk().write(0, 0, 0, 0), 3);
        Bound.is("none on a new one", new Checkdesk().write(0, -1, 0, 0), 0);
        Bound.is("to 24", Bound.desk().write(7, 0, -1, -1), 24);
        Bound.is("nothing to 24", Bound.desk().write(5, -1, -1, -1), 24);
    }

    private static void promise2Throws() {
        Bound.says(2, "Throws `IllegalArgumentException` if one of the three is neither NONE nor a SIGN");
        for (int sign : new int[] {-2, 10, -9, Bound.LOW, Bound.HIGH}) {
            Bound.tells(Bound.desk(), "a " + sign, Bound.NO_ARGUMENT, x -> x.write(0, sign, 0, 0));
            Bound.tells(Bound.desk(), "b " + sign, Bound.NO_ARGUMENT, x -> x.write(0, 0, sign, 0));
            Bound.tells(Bound.desk(), "c " + sign, Bound.NO_ARGUMENT, x -> x.write(0, 0, 0, sign));
            Bound.tells(Bound.desk(), "b behind NONE " + sign, Bound.NO_ARGUMENT, x -> x.write(0, -1, sign, 0));
            Bound.tells(Bound.desk(), "c behind NONE " + sign, Bound.NO_ARGUMENT, x -> x.write(0, 0, -1, sign));
        }
        Bound.says(2, "Throws `IllegalStateException` if it is MISSING, or would have more than 24");
        Bound.tells(Bound.desk(), "MISSING", Bound.NO_STATE, x -> x.write(1, 0, -1, -1));
        Bound.tells(Bound.desk(), "MISSING, and nothing to add", Bound.NO_STATE, x -> x.write(1, -1, -1, -1));
        Bound.tells(Bound.desk(), "24 and 1", Bound.NO_STATE, x -> x.write(5, 0, -1, -1));
        Bound.tells(Bound.desk(), "24 and 3", Bound.NO_STATE, x -> x.write(5, 0, 0, 0));
        Bound.tells(Bound.desk(), "23 and 2", Bound.NO_STATE, x -> x.write(7, 0, 0, -1));
        Bound.tells(Bound.with(8, "a".repeat(22)), "22 and 3", Bound.NO_STATE, x -> x.write(8, 0, 0, 0));
        Bound.changes(Bound.desk(), "24 and none, SIGNS behind it", 24, 5, FULL, x -> x.write(5, -1, 0, 0));
        Bound.changes(Bound.desk(), "23 and 1, a SIGN behind NONE", 24, 7, "A".repeat(23) + "z", x -> x.write(7, 8, -1, 8));
        Bound.changes(Bound.with(8, "a".repeat(22)), "22 and 2", 24, 8, "a".repeat(22) + "bz", x -> x.write(8, 7, 8, -1));
        Bound.changes(Bound.with(8, "a".repeat(21)), "21 and 3", 24, 8, "a".repeat(21) + "bzA", x -> x.write(8, 7, 8, 4));
    }

    private static void promise3() {
        Bound.says(3, "It is one SIGN again and again (and THERE).");
        Bound.changes(Bound.desk(), "what was MISSING", -1, 4, "zzz", x -> x.fill(4, 8, 3));
        Bound.changes(Bound.desk(), "what was MISSING, without SIGNS", -1, 4, "", x -> x.fill(4, 8, 0));
        Bound.changes(Bound.desk(), "fewer than before", 24, 5, "z", x -> x.fill(5, 8, 1));
        Bound.changes(Bound.desk(), "more than before", 1, 6, "z".repeat(23), x -> x.fill(6, 8, 23));
        Bound.changes(Bound.desk(), "none where some were", 3, 3, "", x -> x.fill(3, 8, 0));
        for (int sign = 0; sign <= 9; sign++) {
            int number = sign;
            Bound.changes(Bound.desk(), "SIGN " + sign, 2, 0, Bound.KINDS.substring(sign, sign + 1), x -> x.fill(0, number, 1));
        }
        Bound.says(3, "Returns how many SIGNS it had; NONE if it was MISSING.");
        Bound.is("none", new Checkdesk().fill(0, 6, 5), 0);
        Bound.is("24", Bound.desk().fill(5, 6, 5), 24);
        Bound.is("MISSING", Bound.desk().fill(1, 6, 5), -1);
        Bound.says(3, "Throws `IllegalArgumentException` if there is no such SIGN, or many is not 0 to 24");
        for (int sign : new int[] {-1, 10, -9, Bound.LOW, Bound.HIGH}) {
            Bound.tells(Bound.desk(), "SIGN " + sign, Bound.NO_ARGUMENT, x -> x.fill(0, sign, 1));
            Bound.tells(Bound.desk(), "SIGN " + sign + ", no time", Bound.NO_ARGUMENT, x -> x.fill(0, sign, 0));
        }
        for (int many : new int[] {-1, 25, Bound.LOW, Bound.HIGH}) {
            Bound.tells(Bound.desk(), "many " + many, Bound.NO_ARGUMENT, x -> x.fill(0, 6, many));
            Bound.tells(Bound.desk(), "many " + many + ", MISSING", Bound.NO_ARGUMENT, x -> x.fill(1, 6, many));
        }
        for (int many = 0; many <= 24; many++) {
            int number = many;
            Bound.changes(Bound.desk(), "many " + many, 24, 5, "B".repeat(many), x -> x.fill(5, 5, number));
        }
    }

    private static void promise4() {
        Bound.says(4, "Only the SPAN is left.");
        Bound.changes(Bound.desk(), "the beginning", 1, 3, "a", x -> x.cut(3, 0, 1));
        Bound.changes(Bound.desk(), "the middle", 1, 3, "b", x -> x.cut(3, 1, 2));
        Bound.changes(Bound.desk(), "the end", 2, 3, "bz", x -> x.cut(3, 1, 3));
        Bound.changes(Bound.desk(), "all", 3, 3, "abz", x -> x.cut(3, 0, 3));
        Bound.changes(Bound.desk(), "all of 24", 24, 5, FULL, x -> x.cut(5, 0, 24));
        Bound.changes(Bound.desk(), "nothing at the beginning", 0, 3, "", x -> x.cut(3, 0, 0));
        Bound.changes(Bound.desk(), "nothing at the end", 0, 3, "", x -> x.cut(3, 3, 3));
        Bound.changes(Bound.desk(), "nothing of nothing", 0, 2, "", x -> x.cut(2, 0, 0));
        Bound.says(4, "Returns how many SIGNS are left; REFUSED if the SPAN does not lie inside.");
        int[][] outside = {{-1, 0}, {-1, 3}, {-1, -1}, {0, 4}, {3, 4}, {4, 4}, {2, 1}, {1, 0}, {3, 0}, {0, Bound.HIGH}, {Bound.LOW, 3},
            {Bound.HIGH, Bound.HIGH}, {Bound.LOW, Bound.LOW}, {Bound.LOW, Bound.HIGH}, {Bound.HIGH, Bound.LOW}, {0, -1}};
        for (int[] span : outside) {
            Bound.refuses(Bound.desk(), span[0] + " to " + span[1], x -> x.cut(3, span[0], span[1]));
        }
        Bound.refuses(Bound.desk(), "one of none", x -> x.cut(2, 0, 1));
        Bound.refuses(Bound.desk(), "25 of 24", x -> x.cut(5, 0, 25));
        Bound.says(4, "Throws `IllegalStateException` if it is MISSING");
        Bound.tells(Bound.desk(), "nothing of what is MISSING", Bound.NO_STATE, x -> x.cut(1, 0, 0));
        Bound.tells(Bound.desk(), "to -1, as many as length() tells", Bound.NO_STATE, x -> x.cut(1, 0, -1));
    }

    private static void promise5() {
        Bound.says(5, "Only the STRETCH is left.");
        Bound.changes(Bound.desk(), "the beginning", 1, 3, "a", x -> x.take(3, 0, 1));
        Bound.changes(Bound.desk(), "the middle", 1, 3, "b", x -> x.take(3, 1, 1));
        Bound.changes(Bound.desk(), "the end", 2, 3, "bz", x -> x.take(3, 1, 2));
        Bound.changes(Bound.desk(), "all", 3, 3, "abz", x -> x.take(3, 0, 3));
        Bound.changes(Bound.desk(), "all of 24", 24, 5, FULL, x -> x.take(5, 0, 24));
        Bound.changes(Bound.desk(), "nothing at the beginning", 0, 3, "", x -> x.take(3, 0, 0));
        Bound.changes(Bound.desk(), "nothing at the end", 0, 3, "", x -> x.take(3, 3, 0));
        Bound.changes(Bound.desk(), "nothing of nothing", 0, 2, "", x -> x.take(2, 0, 0));
        Bound.says(5, "Returns how many are left; REFUSED if the STRETCH does not lie inside.");
        int[][] outside = {{-1, 1}, {-1, 4}, {-1, 0}, {0, 4}, {1, 3}, {3, 1}, {4, 0}, {1, -1}, {4, -1}, {0, Bound.HIGH}, {1, Bound.HIGH},
            {Bound.HIGH, 0}, {Bound.HIGH, 1}, {Bound.HIGH, Bound.HIGH}, {Bound.LOW, Bound.LOW}, {Bound.LOW, Bound.HIGH}, {0, Bound.LOW}};
        for (int[] stretch : outside) {
            Bound.refuses(Bound.desk(), stretch[1] + " from " + stretch[0], x -> x.take(3, stretch[0], stretch[1]));
        }
        Bound.refuses(Bound.desk(), "one of none", x -> x.take(2, 0, 1));
        Bound.refuses(Bound.desk(), "25 of 24", x -> x.take(5, 0, 25));
        Bound.says(5, "Throws `IllegalStateException` if it is MISSING");
        Bound.tells(Bound.desk(), "nothing of what is MISSING", Bound.NO_STATE, x -> x.take(1, 0, 0));
        Bound.tells(Bound.desk(), "-1, as many as length() tells", Bound.NO_STATE, x -> x.take(1, 0, -1));
    }

    private static void promise6() {
        Bound.says(6, "A SIGN becomes another one.");
        Bound.changes(Bound.desk(), "the first", 6, 3, "\u00ffbz", x -> x.put(3, 0, 9));
        Bound.changes(Bound.desk(), "the last", 8, 3, "ab ", x -> x.put(3, 2, 0));
        Bound.changes(Bound.desk(), "as it is", 7, 3, "abz", x -> x.put(3, 1, 7));
        Bound.changes(Bound.desk(), "the last of 24", 7, 5, "b".repeat(23) + "z", x -> x.put(5, 23, 8));
        Bound.says(6, "Returns which it was; REFUSED if the PLACE does not lie inside.");
        for (int sign = 0; sign <= 9; sign++) {
            Bound.is("which it was", Bound.with(8, Bound.KINDS).put(8, sign, 9 - sign), sign);
        }
        for (int place : new int[] {-1, 3, 4, 23, 24, Bound.LOW, Bound.HIGH}) {
            Bound.refuses(Bound.desk(), "PLACE " + place, x -> x.put(3, place, 0));
        }
        Bound.refuses(Bound.desk(), "PLACE 0 of none", x -> x.put(2, 0, 0));
        Bound.refuses(Bound.desk(), "PLACE 24 of 24", x -> x.put(5, 24, 0));
        Bound.says(6, "Throws `IllegalArgumentException` if there is no such SIGN");
        for (int sign : new int[] {-1, 10, -9, Bound.LOW, Bound.HIGH}) {
            Bound.tells(Bound.desk(), "SIGN " + sign, Bound.NO_ARGUMENT, x -> x.put(3, 0, sign));
        }
        Bound.says(6, "Throws `IllegalStateException` if it is MISSING");
        Bound.tells(Bound.desk(), "PLACE 0 of what is MISSING", Bound.NO_STATE, x -> x.put(1, 0, 0));
        Bound.tells(Bound.desk(), "PLACE -1 of what is MISSING", Bound.NO_STATE, x -> x.put(1, -1, 0));
    }

    private static void promise7() {
        Bound.says(7, "It becomes what is on another SEAT (THERE or MISSING), a thing of its own.");
        Bound.changes(Bound.desk(), "more than before", 24, 0, FULL, x -> x.copy(0, 5));
        Bound.changes(Bound.desk(), "fewer than before", 2, 5, "ab", x -> x.copy(5, 0));
        Bound.changes(Bound.desk(), "none", 0, 5, "", x -> x.copy(5, 2));
        Bound.changes(Bound.desk(), "MISSING", -1, 0, "none", x -> x.copy(0, 4));
        Bound.changes(Bound.desk(), "over what is MISSING", 3, 4, "abz", x -> x.copy(4, 3));
        Bound.changes(Bound.desk(), "MISSING over MISSING", -1, 4, "none", x -> x.copy(4, 1));
        Bound.changes(Bound.desk(), "the same SEAT", 3, 3, "abz", x -> x.copy(3, 3));
        Bound.changes(Bound.desk(), "the same SEAT, full", 24, 5, FULL, x -> x.copy(5, 5));
        Bound.changes(Bound.desk(), "the same SEAT, MISSING", -1, 1, "none", x -> x.copy(1, 1));
        Checkdesk own = Bound.desk();
        own.copy(8, 3);
        Bound.changes(own, "the copy changes alone", 6, 8, "zbz", x -> x.put(8, 0, 8));
        Bound.changes(own, "the other one changes alone", 6, 3, "Abz", x -> x.put(3, 0, 4));
        Bound.changes(own, "the copy grows alone", 4, 8, "zbza", x -> x.write(8, 6, -1, -1));
        Bound.changes(own, "the other one leaves alone", 3, 3, "none", x -> x.leave(3));
        Bound.says(7, "Returns how many SIGNS it has then; NONE if it is MISSING.");
        Bound.is("24", Bound.desk().copy(0, 5), 24);
        Bound.is("none", Bound.desk().copy(0, 8), 0);
        Bound.is("MISSING", Bound.desk().copy(0, 1), -1);
    }

    private static void promise8() {
        Bound.says(8, "It is MISSING then.");
        Bound.changes(Bound.desk(), "some", 2, 0, "none", x -> x.leave(0));
        Bound.changes(Bound.desk(), "24", 24, 5, "none", x -> x.leave(5));
        Bound.changes(Bound.desk(), "none", 0, 8, "none", x -> x.leave(8));
        Bound.changes(Bound.desk(), "what is MISSING", -1, 4, "none", x -> x.leave(4));
        Bound.says(8, "Returns how many SIGNS it had; NONE if it was MISSING.");
        Bound.is("24", Bound.desk().leave(5), 24);
        Bound.is("none", Bound.desk().leave(2), 0);
        Bound.is("MISSING", Bound.desk().leave(1), -1);
    }
}
