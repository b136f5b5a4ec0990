import java.util.ArrayList;
import java.util.List;

/** "What it is" and the head of "Description": how many calls, NONE, REFUSED, exceptions. Each row has a desk() of its own. */
final class HeadBounds {

    private static final String HEAD = "Description";

    private HeadBounds() {
    }

    static void run() {
        atMost512Calls();
        noneIsMinusOne();
        refusedIsMinusNine();
        whereAMethodNamesIt();
        inTexts();
        nothingChangesThen();
        itIsCounted();
        alsoByWhatIsOnlyAsked();
        exceptionsGoAhead();
        anExceptionChangesNothing();
        theFirstNamedIsThrown();
        Bound.namesNone("What it is", "A desk where texts are held beside each other and places are checked. Seats have texts of three"
                + " kinds, or nothing; one asks whether a place, a span or a stretch lies inside, cuts texts by them, tells which of two"
                + " texts comes first, by words or by other orders, whether two have the same signs, and what is there, or what instead.");
        Bound.namesNone(HEAD, "Whole numbers.");
    }

    private static void atMost512Calls() {
        Bound.says("What it is", "An object is used for at most 512 calls after it has been made; what later calls answer is free.");
        Checkdesk knocked = new Checkdesk();
        Checkdesk refused = new Checkdesk();
        Checkdesk asked = new Checkdesk();
        for (int call = 1; call < 512; call++) {
            knocked.knock();
            refused.place(0, 0);
            asked.ahead(call % 9, call % 4);
        }
        Bound.is("the knock that is call 512", knocked.knock(), 512);
        Bound.is("call 512 tells of 511 that were REFUSED", refused.house(2), 511);
        Bound.is("call 512 tells of 511 times eight ORDERS", asked.house(3), 511 * 8);
        Bound.is("the texts of a whole run", lastOf512(), 9 * 24 + "/true/24");
    }

    /** 509 calls that write, take all away, write again and fill, and three that tell of it. */
    private static String lastOf512() {
        Checkdesk x = new Checkdesk();
        for (int call = 0; call < 509; call++) {
            int round = call / 9;
            if (round > 47) {
                x.fill(call % 9, 9, 24);
            } else if (round % 7 == 6) {
                x.take(call % 9, 18, 0);
            } else {
                x.write(call % 9, round % 10, 9 - round % 10, 9);
            }
        }
        return x.house(0) + "/" + x.isSound() + "/" + x.copy(4, 8);
    }

    private static void noneIsMinusOne() {
        Bound.says(HEAD, "NONE is -1.");
        Bound.tells(Bound.desk(), "length of what is MISSING", -1, x -> x.length(1));
        Bound.changes(Bound.desk(), "write up to -1", 3, 0, "aba", x -> x.write(0, 6, -1, 6));
        Bound.tells(Bound.desk(), "-2 is not NONE", Bound.NO_ARGUMENT, x -> x.write(0, 6, -2, 6));
        Bound.tells(Bound.desk(), "-9 is not NONE", Bound.NO_ARGUMENT, x -> x.write(0, 6, 7, -9));
    }

    private static void refusedIsMinusNine() {
        Bound.says(HEAD, "REFUSED is -9");
        for (Bound.Row row : refusedNumbers()) {
            Bound.is(row.call, row.made.on(Bound.desk()), -9);
        }
    }

    private static void inTexts() {
        Bound.says(HEAD, "(in texts \"!\")");
        for (Bound.Row row : refusedTexts()) {
            Bound.is(row.call, row.made.on(Bound.desk()), "!");
        }
    }

    private static void nothingChangesThen() {
        Bound.says(HEAD, ": nothing changes then, and");
        for (Bound.Row row : allRefused()) {
            Checkdesk x = Bound.desk();
            String before = Bound.held(x);
            row.made.on(x);
            Bound.is(row.call, Bound.held(x), before);
            Bound.is(row.call + " and ORDERS", x.house(3), 0);
            Bound.is(row.call + " and knocks", x.house(5), 0);
        }
    }

    private static void itIsCounted() {
        Bound.says(HEAD, "it is counted");
        for (Bound.Row row : allRefused()) {
            Checkdesk x = Bound.desk();
            row.made.on(x);
            Bound.is(row.call, x.house(2), 1);
            row.made.on(x);
            Bound.is(row.call + " again", x.house(2), 2);
        }
        Checkdesk all = Bound.desk();
        for (Bound.Row row : allRefused()) {
            row.made.on(all);
        }
        Bound.is("all together", all.house(2), allRefused().size());
    }

    private static void alsoByWhatIsOnlyAsked() {
        Bound.says(HEAD, "(also by what is only asked");
        Bound.refuses(Bound.desk(), "place", x -> x.place(5, 5));
        Bound.refuses(Bound.desk(), "span", x -> x.span(0, 6, 5));
        Bound.refuses(Bound.desk(), "stretch", x -> x.stretch(5, 1, 5));
        Bound.refuses(Bound.desk(), "signAt", x -> x.signAt(0, 2));
        Bound.counts(Bound.desk(), "part", "!", 1, 0, 0, x -> x.part(0, 0, 3));
        Bound.refuses(Bound.desk(), "compare", x -> x.compare(0, 1));
        Bound.refuses(Bound.desk(), "compareParts", x -> x.compareParts(0, 3, 0, 3));
        Bound.refuses(Bound.desk(), "isLike", x -> x.isLike(0, 1));
        Bound.refuses(Bound.desk(), "must", x -> x.must(1));
        Bound.counts(Bound.desk(), "orElse", "!", 1, 0, 0, x -> x.orElse(1, 4));
    }

    private static List<Bound.Row> refusedNumbers() {
        return List.of(
                Bound.row("cut(0, -1, 1)", -9, x -> x.cut(0, -1, 1)),
                Bound.row("cut(0, 0, 3)", -9, x -> x.cut(0, 0, 3)),
                Bound.row("cut(0, 2, 1)", -9, x -> x.cut(0, 2, 1)),
                Bound.row("take(0, -1, 1)", -9, x -> x.take(0, -1, 1)),
                Bound.row("take(0, 1, 2)", -9, x -> x.take(0, 1, 2)),
                Bound.row("take(0, 1, -1)", -9, x -> x.take(0, 1, -1)),
                Bound.row("put(0, 2, 6)", -9, x -> x.put(0, 2, 6)),
                Bound.row("put(0, -1, 6)", -9, x -> x.put(0, -1, 6)),
                Bound.row("place(-1, 1)", -9, x -> x.place(-1, 1)),
                Bound.row("place(-9, 1)", -9, x -> x.place(-9, 1)),
                Bound.row("span(0, 2, 1)", -9, x -> x.span(0, 2, 1)),
                Bound.row("stretch(1, 1, 1)", -9, x -> x.stretch(1, 1, 1)),
                Bound.row("signAt(0, -1)", -9, x -> x.signAt(0, -1)),
                Bound.row("signAt(1, 0)", -9, x -> x.signAt(1, 0)),
                Bound.row("compare(1, 4)", -9, x -> x.compare(1, 4)),
                Bound.row("compare(0, 4)", -9, x -> x.compare(0, 4)),
                Bound.row("compare(1, 0)", -9, x -> x.compare(1, 0)),
                Bound.row("compareParts(1, 0, 0, 0)", -9, x -> x.compareParts(1, 0, 0, 0)),
                Bound.row("compareParts(0, 1, 0, 0)", -9, x -> x.compareParts(0, 1, 0, 0)),
                Bound.row("compareParts(3, 0, 0, 3)", -9, x -> x.compareParts(3, 0, 0, 3)),
                Bound.row("isLike(2, 4)", -9, x -> x.isLike(2, 4)),
                Bound.row("must(4)", -9, x -> x.must(4)),
                Bound.row("mustSaying(4)", -9, x -> x.mustSaying(4)));
    }

    private static List<Bound.Row> refusedTexts() {
        return List.of(
                Bound.row("part(1, 0, 0)", "!", x -> x.part(1, 0, 0)),
                Bound.row("part(0, 1, 3)", "!", x -> x.part(0, 1, 3)),
                Bound.row("orElse(1, 4)", "!", x -> x.orElse(1, 4)),
                Bound.row("orElse(1, 1)", "!", x -> x.orElse(1, 1)),
                Bound.row("orGiven(4, 1)", "!", x -> x.orGiven(4, 1)),
                Bound.row("orGiven(4, 4)", "!", x -> x.orGiven(4, 4)));
    }

    private static List<Bound.Row> allRefused() {
        List<Bound.Row> all = new ArrayList<>(refusedNumbers());
        all.addAll(refusedTexts());
        return all;
    }

    private static void whereAMethodNamesIt() {
        Bound.says(HEAD, ", where a method names it");
        Bound.changes(Bound.desk(), "fill what is MISSING", -1, 1, "", x -> x.fill(1, 6, 0));
        Bound.changes(Bound.desk(), "copy what is MISSING", -1, 0, "none", x -> x.copy(0, 1));
        Bound.tells(Bound.desk(), "leave what is MISSING", -1, x -> x.leave(1));
        Bound.tells(Bound.desk(), "isFarPlace outside", false, x -> x.isFarPlace(5, 5));
        Bound.tells(Bound.desk(), "isFarSpan outside", false, x -> x.isFarSpan(0, 6, 5));
        Bound.tells(Bound.desk(), "isFarStretch outside", false, x -> x.isFarStretch(0, 6, 5));
        Bound.tells(Bound.desk(), "insides, most of them outside", 2, x -> x.insides(0, 0));
        Bound.tells(Bound.desk(), "insides, most of the SPANS outside", 6, x -> x.insides(0, 1));
        Bound.tells(Bound.desk(), "insides, most of the STRETCHES outside", 6, x -> x.insides(0, 2));
        Bound.tells(Bound.desk(), "text of what is MISSING", "none", x -> x.text(1));
        Bound.tells(Bound.desk(), "length of what is MISSING", -1, x -> x.length(1));
        Bound.counts(Bound.desk(), "order of what is MISSING", -1, 0, 1, 0, x -> x.order(1, 0, 0));
        Bound.counts(Bound.desk(), "ahead of what is MISSING", 0, 0, 7, 0, x -> x.ahead(1, 0));
        Bound.counts(Bound.desk(), "orGiven of what is MISSING", "ab", 0, 0, 1, x -> x.orGiven(1, 0));
        Bound.tells(Bound.desk(), "isMissing", true, x -> x.isMissing(1));
        Bound.tells(Bound.desk(), "isThere", false, x -> x.isThere(1));
        Bound.tells(Bound.desk(), "areSame", false, x -> x.areSame(1, 0));
        Bound.tells(Bound.desk(), "code of what is MISSING", 0, x -> x.code(1));
        Bound.tells(Bound.desk(), "codes of what is MISSING", 29791, x -> x.codes(1, 4, 1));
        Bound.tells(Bound.desk(), "isSound", true, x -> x.isSound());
        Bound.tells(Bound.desk(), "house of what is MISSING", 2, x -> x.house(1));
        Checkdesk told = Bound.desk();
        told.digest();
        Bound.is("digest", told.house(2), 0);
    }

    /** In each row an exception applies, and what would be REFUSED as well. */
    private static void exceptionsGoAhead() {
        Bound.says(HEAD, "; exceptions go ahead of it).");
        ahead("cut what is MISSING, outside", Bound.NO_STATE, x -> x.cut(1, -1, 0));
        ahead("cut no SEAT, outside", Bound.NO_SEAT, x -> x.cut(9, -1, 0));
        ahead("take what is MISSING, outside", Bound.NO_STATE, x -> x.take(1, 0, 1));
        ahead("take no SEAT, outside", Bound.NO_SEAT, x -> x.take(-1, 0, 25));
        ahead("put no SIGN outside", Bound.NO_ARGUMENT, x -> x.put(0, 2, 10));
        ahead("put on what is MISSING, outside", Bound.NO_STATE, x -> x.put(1, 0, 0));
        ahead("put on no SEAT, outside", Bound.NO_SEAT, x -> x.put(9, -1, 0));
        ahead("signAt of no SEAT, outside", Bound.NO_SEAT, x -> x.signAt(9, -1));
        ahead("part of no SEAT, outside", Bound.NO_SEAT, x -> x.part(-1, -1, 0));
        ahead("compare MISSING with no SEAT", Bound.NO_SEAT, x -> x.compare(1, 9));
        ahead("compare no SEAT with MISSING", Bound.NO_SEAT, x -> x.compare(9, 1));
        ahead("compareParts of MISSING and no SEAT", Bound.NO_SEAT, x -> x.compareParts(1, 9, 0, 0));
        ahead("compareParts of no SEAT and MISSING", Bound.NO_SEAT, x -> x.compareParts(9, 1, 0, 0));
        ahead("compareParts with no SEAT, outside", Bound.NO_SEAT, x -> x.compareParts(0, -1, 2, 1));
        ahead("isLike of a MISSING PAPER and MISSING", Bound.NO_STATE, x -> x.isLike(1, 4));
        ahead("isLike of a MISSING PAPER and itself", Bound.NO_STATE, x -> x.isLike(1, 1));
        ahead("isLike of no PAPER and MISSING", Bound.NO_SEAT, x -> x.isLike(3, 4));
        ahead("orElse of MISSING and no SEAT", Bound.NO_SEAT, x -> x.orElse(1, 9));
        ahead("orElse of no SEAT and MISSING", Bound.NO_SEAT, x -> x.orElse(9, 1));
        ahead("orGiven of MISSING and no SEAT", Bound.NO_SEAT, x -> x.orGiven(1, -1));
        ahead("orGiven of no SEAT and MISSING", Bound.NO_SEAT, x -> x.orGiven(-1, 1));
    }

    private static void ahead(String call, String want, Bound.Made made) {
        Bound.tells(Bound.desk(), call, want, made);
    }

    /** Each of them would change or count something, if it did what it does before it throws. */
    private static void anExceptionChangesNothing() {
        Bound.says(HEAD, "A method that throws an exception changes nothing.");
        ahead("write a SIGN, then no SIGN", Bound.NO_ARGUMENT, x -> x.write(0, 6, 10, -1));
        ahead("write two SIGNS, then no SIGN", Bound.NO_ARGUMENT, x -> x.write(0, 6, 7, -2));
        ahead("write one to 24, then two too many", Bound.NO_STATE, x -> x.write(7, 6, 7, 8));
        ahead("write on what is MISSING", Bound.NO_STATE, x -> x.write(1, 6, 7, 8));
        ahead("fill with no SIGN", Bound.NO_ARGUMENT, x -> x.fill(0, 10, 3));
        ahead("fill what is MISSING with no SIGN", Bound.NO_ARGUMENT, x -> x.fill(1, -1, 3));
        ahead("fill with 25", Bound.NO_ARGUMENT, x -> x.fill(0, 6, 25));
        ahead("fill with -1", Bound.NO_ARGUMENT, x -> x.fill(0, 6, -1));
        ahead("cut what is MISSING", Bound.NO_STATE, x -> x.cut(1, 0, 0));
        ahead("take what is MISSING", Bound.NO_STATE, x -> x.take(1, 0, 0));
        ahead("put no SIGN", Bound.NO_ARGUMENT, x -> x.put(0, 0, -1));
        ahead("copy to no SEAT", Bound.NO_SEAT, x -> x.copy(9, 0));
        ahead("copy from no SEAT", Bound.NO_SEAT, x -> x.copy(0, 9));
        ahead("leave no SEAT", Bound.NO_SEAT, x -> x.leave(-1));
        ahead("order by no ORDER", Bound.NO_ARGUMENT, x -> x.order(0, 3, 4));
        ahead("order with no SEAT", Bound.NO_SEAT, x -> x.order(0, 9, 0));
        ahead("ahead by no ORDER", Bound.NO_ARGUMENT, x -> x.ahead(0, -1));
        ahead("mustSaying of no SEAT", Bound.NO_SEAT, x -> x.mustSaying(9));
        ahead("orGiven of MISSING and no SEAT", Bound.NO_SEAT, x -> x.orGiven(1, 9));
        ahead("insides of MISSING", Bound.NO_STATE, x -> x.insides(1, 1));
        ahead("isEmpty of MISSING", Bound.NO_STATE, x -> x.isEmpty(1));
        ahead("isLike of MISSING", Bound.NO_STATE, x -> x.isLike(1, 0));
        ahead("house of 6", Bound.NO_ARGUMENT, x -> x.house(6));
    }

    private static void theFirstNamedIsThrown() {
        Bound.says(HEAD, "If several exceptions apply, the one that is named first is thrown.");
        ahead("write: no SEAT, no SIGN", Bound.NO_SEAT, x -> x.write(9, 10, 10, 10));
        ahead("write: no SIGN, MISSING", Bound.NO_ARGUMENT, x -> x.write(1, 10, -1, -1));
        ahead("write: no SIGN behind NONE, MISSING", Bound.NO_ARGUMENT, x -> x.write(1, -1, -1, 10));
        ahead("write: no SIGN, more than 24", Bound.NO_ARGUMENT, x -> x.write(5, 0, 0, -2));
        ahead("fill: no SEAT, no SIGN", Bound.NO_SEAT, x -> x.fill(9, -1, 0));
        ahead("fill: no SEAT, 25", Bound.NO_SEAT, x -> x.fill(-1, 0, 25));
        ahead("put: no SEAT, no SIGN", Bound.NO_SEAT, x -> x.put(9, 0, 10));
        ahead("put: no SIGN, MISSING", Bound.NO_ARGUMENT, x -> x.put(1, 0, 10));
        ahead("insides: no SEAT, no such what", Bound.NO_SEAT, x -> x.insides(9, 3));
        ahead("insides: no such what, MISSING", Bound.NO_ARGUMENT, x -> x.insides(1, 3));
        ahead("isLike: no SEAT, a MISSING PAPER", Bound.NO_SEAT, x -> x.isLike(1, 9));
        ahead("order: no SEAT, no ORDER", Bound.NO_SEAT, x -> x.order(9, 0, 4));
        ahead("order: no second SEAT, no ORDER", Bound.NO_SEAT, x -> x.order(0, 9, -1));
        ahead("ahead: no SEAT, no ORDER", Bound.NO_SEAT, x -> x.ahead(9, 4));
    }
}
