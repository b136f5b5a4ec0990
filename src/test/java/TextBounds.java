/** Promises 16 to 20: what is on SEATS. */
final class TextBounds {

    private TextBounds() {
    }

    static void run() {
        promise16();
        promise17();
        promise18();
        promise19();
        promise20();
    }

    private static void promise16() {
        Bound.says(16, "Returns its SIGNS; \"none\" if it is MISSING.");
        Bound.tells(Bound.desk(), "no SIGN", "", x -> x.text(2));
        Bound.tells(Bound.desk(), "one", "a", x -> x.text(6));
        Bound.tells(Bound.desk(), "24", "b".repeat(24), x -> x.text(5));
        Bound.tells(Bound.desk(), "MISSING", "none", x -> x.text(1));
        Bound.tells(Bound.with(8, Bound.KINDS + Bound.KINDS), "all SIGNS", Bound.KINDS + Bound.KINDS, x -> x.text(8));
        Bound.tells(Bound.with(0, "   "), "blanks alone", "   ", x -> x.text(0));
        Checkdesk x = Bound.desk();
        x.leave(5);
        Bound.tells(x, "MISSING, where 24 were", "none", desk -> desk.text(5));
    }

    private static void promise17() {
        Bound.says(17, "Returns how many SIGNS it has; NONE if it is MISSING.");
        Bound.tells(Bound.desk(), "no SIGN", 0, x -> x.length(2));
        Bound.tells(Bound.desk(), "one", 1, x -> x.length(6));
        Bound.tells(Bound.desk(), "24", 24, x -> x.length(5));
        Bound.tells(Bound.desk(), "MISSING", -1, x -> x.length(4));
    }

    private static void promise18() {
        Bound.says(18, "Returns the SIGN there; REFUSED if it is MISSING, or the PLACE does not lie inside.");
        for (int place = 0; place <= 9; place++) {
            int number = place;
            Bound.tells(Bound.with(7, Bound.KINDS), "PLACE " + place, place, x -> x.signAt(7, number));
        }
        Bound.tells(Bound.desk(), "the last of 24", 7, x -> x.signAt(5, 23));
        for (int place : new int[] {-1, 3, 23, 24, -9, Bound.LOW, Bound.HIGH}) {
            Bound.refuses(Bound.desk(), "PLACE " + place, x -> x.signAt(3, place));
            Bound.refuses(Bound.desk(), "PLACE " + place + " of what is MISSING", x -> x.signAt(4, place));
        }
        Bound.refuses(Bound.desk(), "PLACE 24 of 24", x -> x.signAt(5, 24));
        Bound.refuses(Bound.desk(), "PLACE 0 of none", x -> x.signAt(2, 0));
        Bound.refuses(Bound.desk(), "PLACE 0 of what is MISSING", x -> x.signAt(1, 0));
        Checkdesk x = Bound.desk();
        x.cut(3, 0, 2);
        Bound.refuses(x, "a PLACE that was cut away", desk -> desk.signAt(3, 2));
    }

    private static void promise19() {
        Bound.says(19, "Returns its SIGNS; \"!\" (REFUSED) if it is MISSING, or the SPAN does not lie inside.");
        Bound.tells(Bound.desk(), "all", "abz", x -> x.part(3, 0, 3));
        Bound.tells(Bound.desk(), "the first", "a", x -> x.part(3, 0, 1));
        Bound.tells(Bound.desk(), "the last", "z", x -> x.part(3, 2, 3));
        Bound.tells(Bound.desk(), "nothing at the beginning", "", x -> x.part(3, 0, 0));
        Bound.tells(Bound.desk(), "nothing at the end", "", x -> x.part(3, 3, 3));
        Bound.tells(Bound.desk(), "nothing of nothing", "", x -> x.part(2, 0, 0));
        Bound.tells(Bound.desk(), "all of 24", "b".repeat(24), x -> x.part(5, 0, 24));
        int[][] outside = {{-1, 0}, {-1, -1}, {0, 4}, {3, 4}, {4, 4}, {2, 1}, {3, 0}, {0, -1}, {0, Bound.HIGH}, {Bound.LOW, 3},
            {Bound.HIGH, Bound.HIGH}, {Bound.LOW, Bound.LOW}, {Bound.LOW, Bound.HIGH}, {Bound.HIGH, Bound.LOW}};
        for (int[] span : outside) {
            String call = span[0] + " to " + span[1];
            Bound.counts(Bound.desk(), call, "!", 1, 0, 0, x -> x.part(3, span[0], span[1]));
            Bound.counts(Bound.desk(), call + " of what is MISSING", "!", 1, 0, 0, x -> x.part(4, span[0], span[1]));
        }
        Bound.counts(Bound.desk(), "one of none", "!", 1, 0, 0, x -> x.part(2, 0, 1));
        Bound.counts(Bound.desk(), "25 of 24", "!", 1, 0, 0, x -> x.part(5, 0, 25));
        Bound.counts(Bound.desk(), "nothing of what is MISSING", "!", 1, 0, 0, x -> x.part(1, 0, 0));
    }

    private static void promise20() {
        Bound.says(20, "Returns whether it has no SIGN.");
        Bound.tells(Bound.desk(), "none", true, x -> x.isEmpty(2));
        Bound.tells(Bound.desk(), "one", false, x -> x.isEmpty(6));
        Bound.tells(Bound.desk(), "24", false, x -> x.isEmpty(5));
        Bound.tells(Bound.with(0, " "), "a blank", false, x -> x.isEmpty(0));
        Bound.says(20, "Throws `IllegalStateException` if it is MISSING");
        Bound.tells(Bound.desk(), "MISSING", Bound.NO_STATE, x -> x.isEmpty(1));
    }
}
