/** One sentence of the document at a time that names a boundary, and the calls that hold the class to it. */
final class Bound {

    /** A call on a desk. */
    interface Made {
        Object on(Checkdesk x);
    }

    /** A call by its words, with the answer that is due. */
    static final class Row {
        final String call;
        final Object want;
        final Made made;

        Row(String call, Object want, Made made) {
            this.call = call;
            this.want = want;
            this.made = made;
        }
    }

    static final int LOW = Integer.MIN_VALUE;
    static final int HIGH = Integer.MAX_VALUE;
    static final String KINDS = " -01ABabz\u00ff";
    static final String NO_SEAT = "throws.IndexOutOfBoundsException";
    static final String NO_ARGUMENT = "throws.IllegalArgumentException";
    static final String NO_STATE = "throws.IllegalStateException";

    private static String sentence = "";

    private Bound() {
    }

    static Row row(String call, Object want, Made made) {
        return new Row(call, want, made);
    }

    /** What follows holds the class to this sentence. */
    static void says(String section, String words) {
        Doc.cite(section, words);
        sentence = "[" + section + ": " + words + "] ";
    }

    static void says(int promise, String words) {
        says("Promise " + promise, words);
    }

    /** These words name no boundary. */
    static void namesNone(String section, String words) {
        Doc.cite(section, words);
    }

    static void is(String call, Object got, Object want) {
        Due.is(sentence + call, got, want);
    }

    /** A desk with something of each: 0 "ab", 1 and 4 MISSING, 3 "abz", 5 full of "b", 6 "a", 7 23 times "A", the others "". */
    static Checkdesk desk() {
        Checkdesk x = new Checkdesk();
        x.write(0, 6, 7, -1);
        x.leave(1);
        x.write(3, 6, 7, 8);
        x.leave(4);
        x.fill(5, 7, 24);
        x.fill(6, 6, 1);
        x.fill(7, 4, 23);
        return x;
    }

    /** A desk with this text on this SEAT. */
    static Checkdesk with(int seat, String text) {
        Checkdesk x = new Checkdesk();
        put(x, seat, text);
        return x;
    }

    static void put(Checkdesk x, int seat, String text) {
        x.fill(seat, 0, 0);
        for (int place = 0; place < text.length(); place++) {
            x.write(seat, KINDS.indexOf(text.charAt(place)), -1, -1);
        }
    }

    /** The call answers so; nothing changes on the desk, and nothing is counted. */
    static void tells(Checkdesk x, String call, Object want, Made made) {
        counts(x, call, want, 0, 0, 0, made);
    }

    /** The call is REFUSED: counted once, and nothing changes. */
    static void refuses(Checkdesk x, String call, Made made) {
        counts(x, call, -9, 1, 0, 0, made);
    }

    /** The call answers so; nothing changes on the desk but what is counted, by so many. */
    static void counts(Checkdesk x, String call, Object want, int refused, int asked, int given, Made made) {
        String before = held(x);
        int[] counted = {x.house(2) + refused, x.house(3) + asked, x.house(4) + given, x.house(5)};
        is(call, Due.tried(() -> made.on(x)), want);
        is(call + " leaves the SEATS", held(x), before);
        for (int what = 2; what <= 5; what++) {
            is(call + " and then house(" + what + ")", x.house(what), counted[what - 2]);
        }
    }

    /** The call answers so, the SEAT has this text then ("none": MISSING), all others are as before, nothing is counted. */
    static void changes(Checkdesk x, String call, Object want, int seat, String text, Made made) {
        String[] texts = texts(x);
        int[] counted = {x.house(2), x.house(3), x.house(4), x.house(5)};
        is(call, Due.tried(() -> made.on(x)), want);
        texts[seat] = text;
        is(call + " and then the texts", String.join("/", texts(x)), String.join("/", texts));
        for (int what = 2; what <= 5; what++) {
            is(call + " and then house(" + what + ")", x.house(what), counted[what - 2]);
        }
    }

    /** All that stands on the SEATS, in words. (Few calls: an object is used for 512 at most.) */
    static String held(Checkdesk x) {
        return String.join("/", texts(x)) + " " + x.house(0) + " " + x.house(1);
    }

    private static String[] texts(Checkdesk x) {
        String[] texts = new String[9];
        for (int seat = 0; seat < 9; seat++) {
            texts[seat] = x.text(seat);
        }
        return texts;
    }
}
