/** "3. Which comes first" and promises 21 to 25. */
final class OrderBounds {

    private static final String FULL = "b".repeat(24);

    private OrderBounds() {
    }

    static void run() {
        theFirstUnlikeSign();
        fewerSigns();
        alike();
        missingComesAhead();
        order0And1();
        order2();
        order3();
        askedOnce();
        askedAlsoOfMissing();
        notAsked();
        promise21();
        promise22();
        promise22Refused();
        promise23();
        promise24();
        promise25();
        promise25Asked();
        Bound.namesNone("3", "The constructor and the methods follow, a promise each: the signature, then what it does.");
    }

    private static Checkdesk of(String one, String other) {
        Checkdesk x = new Checkdesk();
        set(x, 2, one);
        set(x, 6, other);
        return x;
    }

    /** null: MISSING. */
    private static void set(Checkdesk x, int seat, String text) {
        if (text == null) {
            x.leave(seat);
        } else {
            Bound.put(x, seat, text);
        }
    }

    private static void compared(String one, String other, int want) {
        Bound.tells(of(one, other), one + " and " + other, want, x -> x.compare(2, 6));
        Bound.tells(of(one, other), other + " and " + one, -want, x -> x.compare(6, 2));
    }

    /** Of two unlike SEATS, of which one is THERE: ASKED once, both ways. */
    private static void ordered(String one, String other, int order, int want) {
        Bound.counts(of(one, other), one + " and " + other + " by " + order, want, 0, 1, 0, x -> x.order(2, 6, order));
        Bound.counts(of(one, other), other + " and " + one + " by " + order, -want, 0, 1, 0, x -> x.order(6, 2, order));
    }

    private static void theFirstUnlikeSign() {
        Bound.says("3", "COMPARED, a comes ahead of b, if at the first place where both have SIGNS that are unlike that of a has the"
                + " smaller number;");
        compared("a", "b", -1);
        compared("az", "ba", -1);
        compared("ab", "az", -1);
        compared("abz", "b", -1);
        compared(FULL, "z", -1);
        compared("b".repeat(23) + "a", FULL, -1);
        compared("b".repeat(23) + "z", FULL, 1);
        for (int sign = 1; sign <= 9; sign++) {
            compared(Bound.KINDS.substring(sign - 1, sign), Bound.KINDS.substring(sign, sign + 1), -1);
        }
    }

    private static void fewerSigns() {
        Bound.says("3", "without such a place, if a has fewer SIGNS.");
        compared("", " ", -1);
        compared("a", "a ", -1);
        compared("", FULL, -1);
        compared("b".repeat(23), FULL, -1);
    }

    private static void alike() {
        Bound.says("3", "They are alike, if neither comes ahead.");
        compared("", "", 0);
        compared("\u00ff", "\u00ff", 0);
        compared(FULL, FULL, 0);
    }

    private static void missingComesAhead() {
        Bound.says("3", "ORDERS of what is on two SEATS, THERE or MISSING (what is MISSING comes ahead of all that is THERE,"
                + " by each ORDER):");
        for (int order = 0; order <= 3; order++) {
            ordered(null, "", order, -1);
            ordered(null, " ", order, -1);
            ordered(null, "a", order, -1);
            ordered(null, FULL, order, -1);
            ordered(null, "a".repeat(24), order, -1);
        }
    }

    private static void order0And1() {
        String[][] texts = {{"a", "b"}, {"ab", "b"}, {"", " "}, {"a", "a "}, {"b".repeat(23), FULL}};
        Bound.says("3", "0 as COMPARED;");
        for (String[] two : texts) {
            ordered(two[0], two[1], 0, -1);
        }
        ordered(FULL, FULL, 0, 0);
        ordered("", "", 0, 0);
        Bound.says("3", "1 the other way round as 0 (of two that are THERE);");
        for (String[] two : texts) {
            ordered(two[0], two[1], 1, 1);
        }
        ordered(FULL, FULL, 1, 0);
        ordered("", "", 1, 0);
        ordered(null, FULL, 1, -1);
        ordered(null, "", 1, -1);
    }

    private static void order2() {
        Bound.says("3", "2 fewer SIGNS first, with as many as COMPARED;");
        ordered("z", "aa", 2, -1);
        ordered("", "a", 2, -1);
        ordered("\u00ff".repeat(23), "a".repeat(24), 2, -1);
        ordered("ab", "b ", 2, -1);
        ordered("ab", "az", 2, -1);
        ordered("b".repeat(23) + "a", FULL, 2, -1);
        ordered("ab", "ab", 2, 0);
        ordered("", "", 2, 0);
    }

    private static void order3() {
        Bound.says("3", "3 by how many of the SIGN 6 there are, fewer first: else alike.");
        ordered("bz", "a", 3, -1);
        ordered("", "a", 3, -1);
        ordered("ba", "aa", 3, -1);
        ordered("a".repeat(23) + "b", "a".repeat(24), 3, -1);
        ordered("", FULL, 3, 0);
        ordered("ab", "ba", 3, 0);
        ordered("azzz", "a", 3, 0);
        for (int sign = 0; sign <= 9; sign++) {
            ordered("", Bound.KINDS.substring(sign, sign + 1), 3, sign == 6 ? -1 : 0);
        }
        Checkdesk cut = of("baa", "a");
        cut.cut(2, 0, 1);
        Bound.counts(cut, "what was cut away is none of them", -1, 0, 1, 0, x -> x.order(2, 6, 3));
    }

    private static void askedOnce() {
        Bound.says("3", "An ORDER is ASKED once for two SEATS");
        for (int order = 0; order <= 3; order++) {
            ordered("", "", order, 0);
            ordered("ab", "ab", order, 0);
        }
        Checkdesk x = of("ab", "b");
        for (int many = 1; many <= 8; many++) {
            x.order(many % 2 == 0 ? 2 : 6, many % 2 == 0 ? 6 : 2, many % 4);
            Bound.is("again and again", x.house(3), many);
        }
    }

    private static void askedAlsoOfMissing() {
        Bound.says("3", "(also if one of both is MISSING)");
        for (int order = 0; order <= 3; order++) {
            ordered("ab", null, order, 1);
            ordered(null, "ab", order, -1);
        }
    }

    private static void notAsked() {
        Bound.says("3", ", but not if they are the same one, or both are MISSING: alike then.");
        for (int order = 0; order <= 3; order++) {
            int by = order;
            Bound.tells(of("ab", "b"), "the same one by " + order, 0, x -> x.order(2, 2, by));
            Bound.tells(of("", "b"), "the same one, without SIGNS, by " + order, 0, x -> x.order(2, 2, by));
            Bound.tells(of(null, "b"), "the same one, MISSING, by " + order, 0, x -> x.order(2, 2, by));
            Bound.tells(of(null, null), "both MISSING by " + order, 0, x -> x.order(2, 6, by));
            Bound.tells(of(null, null), "both MISSING, the other way, by " + order, 0, x -> x.order(6, 2, by));
        }
    }

    private static void promise21() {
        Bound.says(21, "Returns COMPARED: -1 if the first one comes ahead, 1 if the second one does, 0 if they are alike; REFUSED if one"
                + " is MISSING.");
        Bound.tells(of("ab", "abz"), "the first one", -1, x -> x.compare(2, 6));
        Bound.tells(of("abz", "ab"), "the second one", 1, x -> x.compare(2, 6));
        Bound.tells(of("ab", "ab"), "alike", 0, x -> x.compare(2, 6));
        Bound.tells(of("ab", "b"), "the same SEAT", 0, x -> x.compare(2, 2));
        // -1 and 1 alone, however far apart the SIGNS and the sizes are.
        Bound.tells(of(" ", "\u00ff"), "far apart", -1, x -> x.compare(2, 6));
        Bound.tells(of("\u00ff", " "), "far apart, the other way", 1, x -> x.compare(2, 6));
        Bound.tells(of(FULL, ""), "many and none", 1, x -> x.compare(2, 6));
        Bound.refuses(of(null, "b"), "the first one MISSING", x -> x.compare(2, 6));
        Bound.refuses(of("a", null), "the second one MISSING", x -> x.compare(2, 6));
        Bound.refuses(of("", null), "none and MISSING", x -> x.compare(2, 6));
        Bound.refuses(of(null, null), "both MISSING, counted once", x -> x.compare(2, 6));
        Bound.refuses(of(null, "b"), "the same one, MISSING", x -> x.compare(2, 2));
    }

    private static void parts(String one, String other, int from, int to, int want) {
        String call = one + " and " + other + ", " + from + " to " + to;
        Bound.tells(of(one, other), call, want, x -> x.compareParts(2, 6, from, to));
        Bound.tells(of(one, other), call + ", the other way", -want, x -> x.compareParts(6, 2, from, to));
    }

    private static void promise22() {
        Bound.says(22, "- `from`: where a SPAN of both begins");
        parts("za", "ab", 1, 2, -1);
        parts("abz", "zbz", 1, 3, 0);
        Bound.says(22, "Returns of both SPANS, COMPARED, as compare();");
        parts("ab", "az", 0, 1, 0);
        parts("ab", "az", 0, 2, -1);
        parts("ab", "az", 1, 2, -1);
        parts("aab", "aaz", 0, 2, 0);
        parts("zzb", "aab", 2, 3, 0);
        parts(" ", "\u00ff", 0, 1, -1);
        parts("ab", "abz", 0, 2, 0);
        parts("ab", "abz", 2, 2, 0);
        parts("a", "b", 0, 0, 0);
        parts("a", "b", 1, 1, 0);
        parts("", "", 0, 0, 0);
        parts("", FULL, 0, 0, 0);
        parts("b".repeat(23) + "a", FULL, 0, 24, -1);
        parts("b".repeat(23) + "a", FULL, 0, 23, 0);
        parts("b".repeat(23) + "a", FULL, 23, 24, -1);
        parts("b".repeat(23) + "a", FULL, 24, 24, 0);
    }

    private static void promise22Refused() {
        Bound.says(22, "REFUSED if one is MISSING, or the SPAN does not lie inside of both.");
        Bound.refuses(of(null, "ab"), "the first one MISSING", x -> x.compareParts(2, 6, 0, 0));
        Bound.refuses(of("ab", null), "the second one MISSING", x -> x.compareParts(2, 6, 0, 0));
        Bound.refuses(of(null, null), "both MISSING, counted once", x -> x.compareParts(2, 6, 0, 0));
        Bound.refuses(of("ab", null), "one MISSING, and outside, counted once", x -> x.compareParts(2, 6, 3, 2));
        int[][] outside = {{-1, 0}, {-1, 2}, {-1, -1}, {1, 0}, {2, 1}, {0, 3}, {2, 3}, {3, 3}, {0, Bound.HIGH}, {Bound.LOW, 2},
            {Bound.HIGH, Bound.HIGH}, {Bound.LOW, Bound.LOW}, {Bound.LOW, Bound.HIGH}, {Bound.HIGH, Bound.LOW}};
        for (int[] span : outside) {
            String call = span[0] + " to " + span[1];
            Bound.refuses(of("ab", "ab"), call + " of neither", x -> x.compareParts(2, 6, span[0], span[1]));
            Bound.refuses(of("ab", "abz"), call + " of the second one at most", x -> x.compareParts(2, 6, span[0], span[1]));
            Bound.refuses(of("abz", "ab"), call + " of the first one at most", x -> x.compareParts(2, 6, span[0], span[1]));
            Bound.refuses(of("ab", "b"), call + " of the same one", x -> x.compareParts(2, 2, span[0], span[1]));
        }
        Bound.refuses(of("", "a"), "one of none", x -> x.compareParts(2, 6, 0, 1));
        Bound.refuses(of(FULL, FULL), "25 of 24", x -> x.compareParts(2, 6, 0, 25));
    }

    private static void promise23() {
        Bound.says(23, "Returns 1 if the PAPER has the same contents, 0 if not; REFUSED if what is on the other SEAT is MISSING.");
        Bound.tells(of("ab", "ab"), "the same", 1, x -> x.isLike(2, 6));
        Bound.tells(of("", ""), "both without SIGNS", 1, x -> x.isLike(2, 6));
        Bound.tells(of(FULL, FULL), "24 and 24", 1, x -> x.isLike(2, 6));
        Bound.tells(of("ab", ""), "itself", 1, x -> x.isLike(2, 2));
        Bound.tells(of("ab", "a"), "one less", 0, x -> x.isLike(2, 6));
        Bound.tells(of("ab", "abz"), "one more", 0, x -> x.isLike(2, 6));
        Bound.tells(of("", " "), "none and a blank", 0, x -> x.isLike(2, 6));
        Bound.tells(of("ab", "zb"), "the first SIGN unlike", 0, x -> x.isLike(2, 6));
        Bound.tells(of("ab", "az"), "the last SIGN unlike", 0, x -> x.isLike(2, 6));
        Bound.tells(of("b".repeat(23) + "a", FULL), "the last of 24 unlike", 0, x -> x.isLike(2, 6));
        Bound.refuses(of("ab", null), "MISSING", x -> x.isLike(2, 6));
        Bound.refuses(of("", null), "none and MISSING", x -> x.isLike(2, 6));
        Bound.says(23, "Throws `IllegalStateException` if the PAPER is MISSING");
        Bound.tells(of(null, "ab"), "a MISSING PAPER", Bound.NO_STATE, x -> x.isLike(2, 6));
        Bound.tells(of(null, null), "both MISSING", Bound.NO_STATE, x -> x.isLike(2, 6));
        Bound.tells(of(null, ""), "itself, MISSING", Bound.NO_STATE, x -> x.isLike(2, 2));
    }

    private static void promise24() {
        Bound.says(24, "Returns -1 if by it the first one comes ahead, 1 if the second one does, 0 if they are alike.");
        Bound.counts(of(" ", "\u00ffa" + FULL.substring(2)), "-1, however far apart", -1, 0, 1, 0, x -> x.order(2, 6, 0));
        Bound.counts(of(" ", "\u00ffa" + FULL.substring(2)), "1, however far apart", 1, 0, 1, 0, x -> x.order(2, 6, 1));
        Bound.counts(of("z", FULL), "-1, however many more", -1, 0, 1, 0, x -> x.order(2, 6, 2));
        Bound.counts(of("a".repeat(24), FULL), "1, however many more", 1, 0, 1, 0, x -> x.order(2, 6, 3));
        Bound.counts(of("ab", "ab"), "alike", 0, 0, 1, 0, x -> x.order(2, 6, 0));
        Bound.says(24, "Throws `IllegalArgumentException` if order is not 0 to 3");
        for (int order : new int[] {-1, 4, -9, Bound.LOW, Bound.HIGH}) {
            Bound.tells(of("a", "b"), "order " + order, Bound.NO_ARGUMENT, x -> x.order(2, 6, order));
            Bound.tells(of("a", "b"), "order " + order + " of the same one", Bound.NO_ARGUMENT, x -> x.order(2, 2, order));
            Bound.tells(of(null, null), "order " + order + " of two that are MISSING", Bound.NO_ARGUMENT, x -> x.order(2, 6, order));
        }
    }

    private static void promise25() {
        Bound.says(25, "Returns how many of the other eight come ahead of it by that ORDER.");
        for (int seat = 0; seat <= 8; seat++) {
            int number = seat;
            for (int order = 0; order <= 3; order++) {
                int by = order;
                Bound.counts(new Checkdesk(), seat + " by " + order + ", all alike", 0, 0, 8, 0, x -> x.ahead(number, by));
                Bound.counts(allBut(seat, "b", "a"), seat + " first by " + order, by == 1 || by == 3 ? 8 : 0, 0, 8, 0,
                        x -> x.ahead(number, by));
                Bound.counts(allBut(seat, "a", "b"), seat + " last by " + order, by == 1 || by == 3 ? 0 : 8, 0, 8, 0,
                        x -> x.ahead(number, by));
            }
        }
        Bound.says(25, "Throws `IllegalArgumentException` if order is not 0 to 3");
        for (int order : new int[] {-1, 4, -9, Bound.LOW, Bound.HIGH}) {
            Bound.tells(Bound.desk(), "order " + order, Bound.NO_ARGUMENT, x -> x.ahead(0, order));
            Bound.tells(Bound.desk(), "order " + order + " of what is MISSING", Bound.NO_ARGUMENT, x -> x.ahead(1, order));
        }
    }

    /** "how many of the other eight", and how often that is ASKED. */
    private static void promise25Asked() {
        Bound.says("3", "(also if one of both is MISSING), but not if they are the same one, or both are MISSING: alike then.");
        for (int seat = 0; seat <= 8; seat++) {
            int number = seat;
            for (int order = 0; order <= 3; order++) {
                int by = order;
                Bound.counts(allBut(seat, null, "b"), "all others MISSING, by " + order, 8, 0, 8, 0, x -> x.ahead(number, by));
                Bound.counts(allBut(seat, "b", null), "it alone MISSING, by " + order, 0, 0, 8, 0, x -> x.ahead(number, by));
                Bound.counts(allBut(seat, null, null), "all MISSING, by " + order, 0, 0, 0, 0, x -> x.ahead(number, by));
                Bound.counts(Bound.desk(), "of some that are MISSING, by " + order, aheadInDesk(seat, order), 0,
                        seat == 1 || seat == 4 ? 7 : 8, 0, x -> x.ahead(number, by));
            }
        }
    }

    private static Checkdesk allBut(int seat, String others, String own) {
        Checkdesk x = new Checkdesk();
        for (int other = 0; other <= 8; other++) {
            set(x, other, other == seat ? own : others);
        }
        return x;
    }

    /** desk() has "ab", nothing, "", "abz", nothing, 24 times "b", "a", 23 times "A", "". */
    private static int aheadInDesk(int seat, int order) {
        int[][] dues = {{6, 0, 2, 7, 0, 8, 5, 4, 2}, {4, 0, 7, 3, 0, 2, 5, 6, 7}, {5, 0, 2, 6, 0, 8, 4, 7, 2}, {6, 0, 2, 6, 0, 2, 6, 2, 2}};
        return dues[order][seat];
    }
}
