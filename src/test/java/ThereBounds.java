/** CODE of "3. Which comes first", and promises 26 to 34. In desk() 1 and 4 are MISSING, 2 and 8 have no SIGNS. */
final class ThereBounds {

    private ThereBounds() {
    }

    static void run() {
        codeOfMissingAndTexts();
        codeOfThree();
        wrapAround();
        promise26();
        promise27();
        promise28();
        promise29();
        promises30And31();
        promise32();
        promise33();
        promise34();
    }

    private static void codeOfMissingAndTexts() {
        Bound.says("3", "CODE: of what is MISSING 0;");
        Bound.tells(Bound.desk(), "MISSING", 0, x -> x.code(1));
        Checkdesk left = Bound.desk();
        left.leave(5);
        Bound.tells(left, "MISSING, where 24 were", 0, x -> x.code(5));
        Bound.says("3", "of a text 0, then for each SIGN in its order itself * 31 and the SIGN's code together.");
        Bound.tells(Bound.desk(), "no SIGN", 0, x -> x.code(2));
        for (int sign = 0; sign <= 9; sign++) {
            String text = Bound.KINDS.substring(sign, sign + 1);
            Bound.tells(Bound.with(8, text), "SIGN " + sign, (int) text.charAt(0), x -> x.code(8));
        }
        Bound.tells(Bound.desk(), "in its order", 97 * 31 + 98, x -> x.code(0));
        Bound.tells(Bound.with(0, "ba"), "in the other order", 98 * 31 + 97, x -> x.code(0));
        Bound.tells(Bound.with(0, "  "), "blanks count", 32 * 31 + 32, x -> x.code(0));
    }

    private static void codeOfThree() {
        Bound.says("3", "CODE of three: 1, then for each one itself * 31 and its CODE together.");
        Bound.tells(Bound.desk(), "none", 29791, x -> x.codes(2, 8, 2));
        Bound.tells(Bound.desk(), "MISSING", 29791, x -> x.codes(1, 4, 1));
        Bound.tells(Bound.desk(), "the first one", 29791 + 97 * 961, x -> x.codes(6, 2, 8));
        Bound.tells(Bound.desk(), "the second one", 29791 + 97 * 31, x -> x.codes(2, 6, 8));
        Bound.tells(Bound.desk(), "the third one", 29791 + 97, x -> x.codes(2, 8, 6));
        Bound.tells(Bound.desk(), "the same three times", 29791 + 97 * 961 + 97 * 31 + 97, x -> x.codes(6, 6, 6));
    }

    private static void wrapAround() {
        Bound.says("3", "(As ints do: they wrap around.)");
        // Five SIGNS of the code 255 have the CODE 243347775; of six it would be 7543781280, more than an int holds.
        Bound.tells(Bound.with(0, "\u00ff".repeat(5)), "five", 243347775, x -> x.code(0));
        Bound.tells(Bound.with(0, "\u00ff".repeat(6)), "six", -1046153312, x -> x.code(0));
        String all = "\u00ff".repeat(24);
        Bound.tells(Bound.with(0, all), "24", all.hashCode(), x -> x.code(0));
        int code = all.hashCode();
        Bound.tells(Bound.with(0, all), "three of 24", ((31 + code) * 31 + code) * 31 + code, x -> x.codes(0, 0, 0));
        Bound.tells(Bound.with(0, all), "24, none, 24", (31 + code) * 31 * 31 + code, x -> x.codes(0, 1, 0));
    }

    private static void promise26() {
        Bound.says(26, "Returns how many SIGNS it has, if it is THERE, as it has to be; REFUSED otherwise.");
        Bound.tells(Bound.desk(), "none", 0, x -> x.must(2));
        Bound.tells(Bound.desk(), "one", 1, x -> x.must(6));
        Bound.tells(Bound.desk(), "24", 24, x -> x.must(5));
        Bound.refuses(Bound.desk(), "MISSING", x -> x.must(1));
    }

    private static void promise27() {
        Bound.says(27, "Likewise, with words for it, which are GIVEN just if it is MISSING.");
        Bound.counts(Bound.desk(), "MISSING", -9, 1, 0, 1, x -> x.mustSaying(1));
        Bound.tells(Bound.desk(), "no SIGN, but THERE", 0, x -> x.mustSaying(2));
        Bound.says(27, "Returns how many SIGNS it has; REFUSED if it is MISSING (GIVEN is 1 more then).");
        Bound.tells(Bound.desk(), "one", 1, x -> x.mustSaying(6));
        Bound.tells(Bound.desk(), "24", 24, x -> x.mustSaying(5));
        Checkdesk x = Bound.desk();
        for (int many = 1; many <= 3; many++) {
            Bound.counts(x, "MISSING, time " + many, -9, 1, 0, 1, desk -> desk.mustSaying(4));
            Bound.is("GIVEN", x.house(4), many);
        }
    }

    private static void promise28() {
        Bound.says(28, "- `other`: another SEAT, or the same");
        Bound.tells(Bound.desk(), "the same", "ab", x -> x.orElse(0, 0));
        Bound.counts(Bound.desk(), "the same, MISSING", "!", 1, 0, 0, x -> x.orElse(1, 1));
        Bound.says(28, "Returns the SIGNS of the first one, if it is THERE, otherwise those of the second one; \"!\" (REFUSED) if both are"
                + " MISSING.");
        Bound.tells(Bound.desk(), "both THERE", "ab", x -> x.orElse(0, 3));
        Bound.tells(Bound.desk(), "the first one THERE, the second one MISSING", "abz", x -> x.orElse(3, 1));
        Bound.tells(Bound.desk(), "the first one without SIGNS", "", x -> x.orElse(2, 3));
        Bound.tells(Bound.desk(), "the first one without SIGNS, the second one MISSING", "", x -> x.orElse(2, 1));
        Bound.tells(Bound.desk(), "the first one MISSING", "abz", x -> x.orElse(1, 3));
        Bound.tells(Bound.desk(), "the first one MISSING, the second one full", "b".repeat(24), x -> x.orElse(1, 5));
        Bound.tells(Bound.desk(), "the first one MISSING, the second one without SIGNS", "", x -> x.orElse(1, 2));
        Bound.counts(Bound.desk(), "both MISSING, counted once", "!", 1, 0, 0, x -> x.orElse(1, 4));
    }

    private static void promise29() {
        Bound.says(29, "- `other`: another SEAT, or the same");
        Bound.tells(Bound.desk(), "the same", "ab", x -> x.orGiven(0, 0));
        Bound.counts(Bound.desk(), "the same, MISSING", "!", 1, 0, 1, x -> x.orGiven(1, 1));
        Bound.says(29, "Likewise, but the second one is GIVEN, just if the first one is MISSING");
        Bound.counts(Bound.desk(), "the first one MISSING", "abz", 0, 0, 1, x -> x.orGiven(1, 3));
        Bound.counts(Bound.desk(), "the first one MISSING, the second one without SIGNS", "", 0, 0, 1, x -> x.orGiven(1, 2));
        Bound.tells(Bound.desk(), "the first one THERE, the second one MISSING", "abz", x -> x.orGiven(3, 1));
        Bound.tells(Bound.desk(), "the first one without SIGNS, the second one MISSING", "", x -> x.orGiven(2, 1));
        Bound.says(29, "(GIVEN is 1 more then, also if it is REFUSED).");
        Bound.counts(Bound.desk(), "both MISSING", "!", 1, 0, 1, x -> x.orGiven(1, 4));
        Bound.counts(Bound.desk(), "both MISSING, the other way", "!", 1, 0, 1, x -> x.orGiven(4, 1));
        Bound.says(29, "Returns as orElse().");
        for (int one = 0; one <= 8; one++) {
            for (int other = 0; other <= 8; other++) {
                Bound.is(one + " or " + other, Bound.desk().orGiven(one, other), Bound.desk().orElse(one, other));
            }
        }
    }

    private static void promises30And31() {
        for (int promise = 30; promise <= 31; promise++) {
            boolean there = promise == 31;
            Bound.says(promise, there ? "Returns whether it is THERE." : "Returns whether it is MISSING.");
            for (int seat = 0; seat <= 8; seat++) {
                int number = seat;
                boolean due = there != (seat == 1 || seat == 4);
                Bound.tells(Bound.desk(), "SEAT " + seat, due, x -> there ? x.isThere(number) : x.isMissing(number));
            }
            Checkdesk x = Bound.desk();
            x.take(5, 24, 0);
            Bound.is("nothing left, but THERE", there ? x.isThere(5) : x.isMissing(5), there);
            x.leave(5);
            Bound.is("left", there ? x.isThere(5) : x.isMissing(5), !there);
            x.fill(5, 6, 0);
            Bound.is("filled with none", there ? x.isThere(5) : x.isMissing(5), there);
        }
    }

    private static void promise32() {
        Bound.says(32, "Returns whether both have the same SIGNS, or both are MISSING.");
        Bound.tells(Bound.desk(), "both without SIGNS", true, x -> x.areSame(2, 8));
        Bound.tells(Bound.desk(), "both MISSING", true, x -> x.areSame(1, 4));
        Bound.tells(Bound.desk(), "the same SEAT", true, x -> x.areSame(5, 5));
        Bound.tells(Bound.desk(), "the same SEAT, MISSING", true, x -> x.areSame(4, 4));
        Bound.tells(Bound.desk(), "MISSING, and without SIGNS", false, x -> x.areSame(1, 2));
        Bound.tells(Bound.desk(), "without SIGNS, and MISSING", false, x -> x.areSame(2, 1));
        Bound.tells(Bound.desk(), "a beginning", false, x -> x.areSame(0, 3));
        Bound.tells(Bound.desk(), "a beginning, the other way", false, x -> x.areSame(3, 0));
        String[][] unlike = {{"ab", "zb"}, {"ab", "az"}, {"ab", "ba"}, {"", " "}, {"b".repeat(24), "b".repeat(23) + "a"}};
        for (String[] two : unlike) {
            Checkdesk x = Bound.with(0, two[0]);
            Bound.put(x, 8, two[1]);
            Bound.tells(x, two[0] + " and " + two[1], false, desk -> desk.areSame(0, 8));
            Bound.put(x, 8, two[0]);
            Bound.tells(x, two[0] + " twice", true, desk -> desk.areSame(0, 8));
        }
        Checkdesk x = Bound.desk();
        x.cut(3, 0, 2);
        Bound.tells(x, "what was cut away does not count", true, desk -> desk.areSame(0, 3));
    }

    private static void promise33() {
        Bound.says(33, "Returns CODE of what is on it.");
        Checkdesk x = Bound.desk();
        x.cut(3, 0, 2);
        Bound.tells(x, "what was cut away does not count", 97 * 31 + 98, desk -> desk.code(3));
        Bound.tells(Bound.desk(), "24", "b".repeat(24).hashCode(), desk -> desk.code(5));
        Bound.tells(Bound.desk(), "23", "A".repeat(23).hashCode(), desk -> desk.code(7));
        Bound.tells(Bound.desk(), "none", 0, desk -> desk.code(8));
        Bound.tells(Bound.desk(), "MISSING", 0, desk -> desk.code(4));
    }

    private static void promise34() {
        Bound.says(34, "Returns CODE of the three.");
        Checkdesk x = Bound.desk();
        Bound.tells(x, "three unlike ones", ((31 + x.code(0)) * 31 + x.code(3)) * 31 + x.code(7), desk -> desk.codes(0, 3, 7));
        Bound.tells(x, "turned", ((31 + x.code(7)) * 31 + x.code(3)) * 31 + x.code(0), desk -> desk.codes(7, 3, 0));
        Bound.tells(x, "MISSING as none", x.codes(0, 2, 7), desk -> desk.codes(0, 1, 7));
    }
}
