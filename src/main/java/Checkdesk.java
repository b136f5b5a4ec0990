/**
 * A desk where texts are held beside each other and places are checked.
 *
 * Nine SEATS have texts of up to 24 SIGNS, or nothing. The face below tests
 * what it is given and counts what is counted; Texts holds what is on the
 * SEATS, Inside tells what lies inside, Soundness tells isSound().
 */
public final class Checkdesk {

    private static final int NONE = -1;
    private static final int REFUSED = -9;
    private static final String REFUSED_TEXT = "!";
    private static final String MISSING_TEXT = "none";

    private static final int SEATS = 9;
    private static final int PAPERS = 3;
    private static final int MOST_SIGNS = 24;
    private static final int KINDS_OF_SIGNS = 10;
    private static final int COUNTED_SIGN = 6;

    private static final int LAST_INSIDES = 2;
    private static final int LAST_ORDER = 3;
    private static final int LAST_HOUSE = 5;

    private static final long FAR = 4294967296L;

    private static final int[] SIGN_CODES = {32, 45, 48, 49, 65, 66, 97, 98, 122, 255};

    private final Texts texts;
    private int refusals;
    private int askedOrders;
    private int givings;
    private int knocks;

    /** Promise 1. */
    public Checkdesk() {
        texts = new Texts();
    }

    // ---- seats

    /** Promise 2. */
    public int write(int seat, int a, int b, int c)
            throws IndexOutOfBoundsException, IllegalArgumentException, IllegalStateException {
        wantSeat(seat);
        wantSignOrNone(a);
        wantSignOrNone(b);
        wantSignOrNone(c);
        wantThere(seat);
        int many = a == NONE ? 0 : b == NONE ? 1 : c == NONE ? 2 : 3;
        wantRoom(seat, many);
        if (many > 0) {
            texts.add(seat, a);
        }
        if (many > 1) {
            texts.add(seat, b);
        }
        if (many > 2) {
            texts.add(seat, c);
        }
        return texts.size(seat);
    }

    /** Promise 3. */
    public int fill(int seat, int sign, int many)
            throws IndexOutOfBoundsException, IllegalArgumentException {
        wantSeat(seat);
        wantSign(sign);
        wantUpTo(many, MOST_SIGNS);
        int before = texts.size(seat);
        texts.clear(seat);
        for (int place = 0; place < many; place++) {
            texts.add(seat, sign);
        }
        return before;
    }

    /** Promise 4. */
    public int cut(int seat, int from, int to)
            throws IndexOutOfBoundsException, IllegalStateException {
        wantSeat(seat);
        wantThere(seat);
        if (!Inside.holdsSpan(from, to, texts.size(seat))) {
            return refuse();
        }
        return texts.keep(seat, from, to);
    }

    /** Promise 5. */
    public int take(int seat, int from, int size)
            throws IndexOutOfBoundsException, IllegalStateException {
        wantSeat(seat);
        wantThere(seat);
        if (!Inside.holdsStretch(from, size, texts.size(seat))) {
            return refuse();
        }
        return texts.keep(seat, from, from + size);
    }

    /** Promise 6. */
    public int put(int seat, int place, int sign)
            throws IndexOutOfBoundsException, IllegalArgumentException, IllegalStateException {
        wantSeat(seat);
        wantSign(sign);
        wantThere(seat);
        if (!Inside.holdsPlace(place, texts.size(seat))) {
            return refuse();
        }
        int before = texts.sign(seat, place);
        texts.change(seat, place, sign);
        return before;
    }

    /** Promise 7. */
    public int copy(int seat, int from) throws IndexOutOfBoundsException {
        wantSeat(seat);
        wantSeat(from);
        texts.become(seat, from);
        return texts.size(seat);
    }

    /** Promise 8. */
    public int leave(int seat) throws IndexOutOfBoundsException {
        wantSeat(seat);
        int before = texts.size(seat);
        texts.remove(seat);
        return before;
    }

    // ---- inside

    /** Promise 9. */
    public int place(int place, int length) {
        return Inside.holdsPlace(place, length) ? place : refuse();
    }

    /** Promise 10. */
    public int span(int from, int to, int length) {
        return Inside.holdsSpan(from, to, length) ? from : refuse();
    }

    /** Promise 11. */
    public int stretch(int from, int size, int length) {
        return Inside.holdsStretch(from, size, length) ? from : refuse();
    }

    /** Promise 12. */
    public boolean isFarPlace(int place, int length) {
        return Inside.holdsPlace(Inside.far(place), Inside.far(length));
    }

    /** Promise 13. */
    public boolean isFarSpan(int from, int to, int length) {
        return Inside.holdsSpan(Inside.far(from), Inside.far(to), Inside.far(length));
    }

    /** Promise 14. */
    public boolean isFarStretch(int from, int size, int length) {
        return Inside.holdsStretch(Inside.far(from), Inside.far(size), Inside.far(length));
    }

    /** Promise 15. */
    public int insides(int seat, int what)
            throws IndexOutOfBoundsException, IllegalArgumentException, IllegalStateException {
        wantSeat(seat);
        wantUpTo(what, LAST_INSIDES);
        wantThere(seat);
        int size = texts.size(seat);
        switch (what) {
            case 0:
                return Inside.countPlaces(size);
            case 1:
                return Inside.countSpans(size);
            default:
                return Inside.countStretches(size);
        }
    }

    // ---- what is on seats

    /** Promise 16. */
    public String text(int seat) throws IndexOutOfBoundsException {
        wantSeat(seat);
        return texts.isAway(seat) ? MISSING_TEXT : texts.spellAll(seat);
    }

    /** Promise 17. */
    public int length(int seat) throws IndexOutOfBoundsException {
        wantSeat(seat);
        return texts.size(seat);
    }

    /** Promise 18. */
    public int signAt(int seat, int place) throws IndexOutOfBoundsException {
        wantSeat(seat);
        if (texts.isAway(seat) || !Inside.holdsPlace(place, texts.size(seat))) {
            return refuse();
        }
        return texts.sign(seat, place);
    }

    /** Promise 19. */
    public String part(int seat, int from, int to) throws IndexOutOfBoundsException {
        wantSeat(seat);
        if (texts.isAway(seat) || !Inside.holdsSpan(from, to, texts.size(seat))) {
            return refuseText();
        }
        return texts.spell(seat, from, to);
    }

    /** Promise 20. */
    public boolean isEmpty(int seat) throws IndexOutOfBoundsException, IllegalStateException {
        wantSeat(seat);
        wantThere(seat);
        return texts.size(seat) == 0;
    }

    // ---- which comes first

    /** Promise 21. */
    public int compare(int one, int other) throws IndexOutOfBoundsException {
        wantSeat(one);
        wantSeat(other);
        if (texts.isAway(one) || texts.isAway(other)) {
            return refuse();
        }
        return texts.compared(one, other);
    }

    /** Promise 22. */
    public int compareParts(int one, int other, int from, int to) throws IndexOutOfBoundsException {
        wantSeat(one);
        wantSeat(other);
        if (texts.isAway(one) || texts.isAway(other)) {
            return refuse();
        }
        if (!Inside.holdsSpan(from, to, texts.size(one)) || !Inside.holdsSpan(from, to, texts.size(other))) {
            return refuse();
        }
        return texts.comparedFrom(from, one, to, other, to);
    }

    /** Promise 23. */
    public int isLike(int paper, int seat) throws IndexOutOfBoundsException, IllegalStateException {
        wantPaper(paper);
        wantSeat(seat);
        wantThere(paper);
        if (texts.isAway(seat)) {
            return refuse();
        }
        return texts.haveSameSigns(paper, seat) ? 1 : 0;
    }

    /** Promise 24. */
    public int order(int one, int other, int order)
            throws IndexOutOfBoundsException, IllegalArgumentException {
        wantSeat(one);
        wantSeat(other);
        wantUpTo(order, LAST_ORDER);
        return askOrder(one, other, order);
    }

    /** Promise 25. */
    public int ahead(int seat, int order) throws IndexOutOfBoundsException, IllegalArgumentException {
        wantSeat(seat);
        wantUpTo(order, LAST_ORDER);
        int many = 0;
        for (int other = 0; other < SEATS; other++) {
            if (askOrder(other, seat, order) < 0) {
                many++;
            }
        }
        return many;
    }

    // ---- what is there

    /** Promise 26. */
    public int must(int seat) throws IndexOutOfBoundsException {
        wantSeat(seat);
        return texts.isAway(seat) ? refuse() : texts.size(seat);
    }

    /** Promise 27. */
    public int mustSaying(int seat) throws IndexOutOfBoundsException {
        wantSeat(seat);
        if (texts.isAway(seat)) {
            givings++;
            return refuse();
        }
        return texts.size(seat);
    }

    /** Promise 28. */
    public String orElse(int seat, int other) throws IndexOutOfBoundsException {
        wantSeat(seat);
        wantSeat(other);
        return spellEither(seat, other);
    }

    /** Promise 29. */
    public String orGiven(int seat, int other) throws IndexOutOfBoundsException {
        wantSeat(seat);
        wantSeat(other);
        if (texts.isAway(seat)) {
            givings++;
        }
        return spellEither(seat, other);
    }

    /** Promise 30. */
    public boolean isMissing(int seat) throws IndexOutOfBoundsException {
        wantSeat(seat);
        return texts.isAway(seat);
    }

    /** Promise 31. */
    public boolean isThere(int seat) throws IndexOutOfBoundsException {
        wantSeat(seat);
        return !texts.isAway(seat);
    }

    /** Promise 32. */
    public boolean areSame(int one, int other) throws IndexOutOfBoundsException {
        wantSeat(one);
        wantSeat(other);
        return texts.haveSameSigns(one, other);
    }

    /** Promise 33. */
    public int code(int seat) throws IndexOutOfBoundsException {
        wantSeat(seat);
        return texts.codeOf(seat);
    }

    /** Promise 34. */
    public int codes(int one, int other, int third) throws IndexOutOfBoundsException {
        wantSeat(one);
        wantSeat(other);
        wantSeat(third);
        return texts.codeOfThree(one, other, third);
    }

    // ---- the desk

    /** Promise 35. */
    public int knock() {
        knocks++;
        return knocks;
    }

    /** Promise 36. */
    public int house(int what) throws IllegalArgumentException {
        wantUpTo(what, LAST_HOUSE);
        return tell(what);
    }

    /** Promise 37. */
    public boolean isSound() {
        return Soundness.holds(texts);
    }

    /** Promise 38. */
    public long digest() {
        long d = 7777;
        for (int what = 0; what <= LAST_HOUSE; what++) {
            d = d * 31 + tell(what);
        }
        for (int seat = 0; seat < SEATS; seat++) {
            d = d * 31 + texts.size(seat);
            d = d * 31 + texts.codeOf(seat);
        }
        for (int one = 0; one < SEATS; one++) {
            for (int other = 0; other < SEATS; other++) {
                for (int order = 0; order <= LAST_ORDER; order++) {
                    d = d * 31 + texts.ordered(one, other, order);
                }
            }
        }
        for (int one = 0; one < 3; one++) {
            d = d * 31 + texts.codeOfThree(one, one + 3, one + 6);
        }
        return d * 31 + (Soundness.holds(texts) ? 1 : 0);
    }

    // ---- what several methods of the face do

    private int refuse() {
        refusals++;
        return REFUSED;
    }

    private String refuseText() {
        refusals++;
        return REFUSED_TEXT;
    }

    private int askOrder(int one, int other, int order) {
        if (one != other && !(texts.isAway(one) && texts.isAway(other))) {
            askedOrders++;
        }
        return texts.ordered(one, other, order);
    }

    private String spellEither(int seat, int other) {
        if (!texts.isAway(seat)) {
            return texts.spellAll(seat);
        }
        return texts.isAway(other) ? refuseText() : texts.spellAll(other);
    }

    private int tell(int what) {
        switch (what) {
            case 0:
                return texts.countSigns();
            case 1:
                return texts.countAway();
            case 2:
                return refusals;
            case 3:
                return askedOrders;
            case 4:
                return givings;
            default:
                return knocks;
        }
    }

    // ---- what the face throws

    private static void wantSeat(int seat) {
        if (seat < 0 || seat >= SEATS) {
            throw new IndexOutOfBoundsException("no such seat");
        }
    }

    private static void wantPaper(int seat) {
        if (seat < 0 || seat >= PAPERS) {
            throw new IndexOutOfBoundsException("no such seat with a paper");
        }
    }

    private static void wantSign(int sign) {
        if (sign < 0 || sign >= KINDS_OF_SIGNS) {
            throw new IllegalArgumentException("no such sign");
        }
    }

    private static void wantSignOrNone(int sign) {
        if (sign != NONE) {
            wantSign(sign);
        }
    }

    private static void wantUpTo(int number, int last) {
        if (number < 0 || number > last) {
            throw new IllegalArgumentException("the number is not one of those that are told");
        }
    }

    private void wantThere(int seat) {
        if (texts.isAway(seat)) {
            throw new IllegalStateException("what is on the seat is missing");
        }
    }

    private void wantRoom(int seat, int many) {
        if (texts.size(seat) + many > MOST_SIGNS) {
            throw new IllegalStateException("the text would have too many signs");
        }
    }

    /** What is on the SEATS; whoever calls has tested the SEATS, PLACES and SIGNS. */
    private static final class Texts {

        private final int[] sizes = new int[SEATS];
        private final int[] signs = new int[SEATS * MOST_SIGNS];
        // One row for all parts: isSound() looks at thousands of them and must not make a row for each.
        private final int[] laid = new int[MOST_SIGNS];

        boolean isAway(int seat) {
            return sizes[seat] == NONE;
        }

        /** How many SIGNS it has; NONE if it is MISSING. */
        int size(int seat) {
            return sizes[seat];
        }

        int sign(int seat, int place) {
            return signs[seat * MOST_SIGNS + place];
        }

        void change(int seat, int place, int sign) {
            signs[seat * MOST_SIGNS + place] = sign;
        }

        void clear(int seat) {
            sizes[seat] = 0;
        }

        void remove(int seat) {
            sizes[seat] = NONE;
        }

        void add(int seat, int sign) {
            change(seat, sizes[seat], sign);
            sizes[seat]++;
        }

        void become(int seat, int from) {
            for (int place = 0; place < sizes[from]; place++) {
                change(seat, place, sign(from, place));
            }
            sizes[seat] = sizes[from];
        }

        int keep(int seat, int from, int to) {
            int many = lay(seat, from, to);
            for (int place = 0; place < many; place++) {
                change(seat, place, laid[place]);
            }
            sizes[seat] = many;
            return many;
        }

        /** Lays the SPAN into the row for parts, and tells how many SIGNS were laid. */
        int lay(int seat, int from, int to) {
            int many = 0;
            for (int place = from; place < to; place++) {
                laid[many] = sign(seat, place);
                many++;
            }
            return many;
        }

        String spell(int seat, int from, int to) {
            int many = lay(seat, from, to);
            StringBuilder spelled = new StringBuilder();
            for (int place = 0; place < many; place++) {
                spelled.append((char) SIGN_CODES[laid[place]]);
            }
            return spelled.toString();
        }

        String spellAll(int seat) {
            return spell(seat, 0, sizes[seat]);
        }

        int compared(int one, int other) {
            return comparedFrom(0, one, sizes[one], other, sizes[other]);
        }

        int comparedFrom(int from, int one, int oneTo, int other, int otherTo) {
            int bothTo = Math.min(oneTo, otherTo);
            for (int place = from; place < bothTo; place++) {
                int first = smaller(sign(one, place), sign(other, place));
                if (first != 0) {
                    return first;
                }
            }
            return smaller(oneTo, otherTo);
        }

        int ordered(int one, int other, int order) {
            if (isAway(one) || isAway(other)) {
                return smaller(isAway(one) ? 0 : 1, isAway(other) ? 0 : 1);
            }
            switch (order) {
                case 0:
                    return compared(one, other);
                case 1:
                    return compared(other, one);
                case 2:
                    return sizes[one] == sizes[other] ? compared(one, other) : smaller(sizes[one], sizes[other]);
                default:
                    return smaller(countOf(one, COUNTED_SIGN), countOf(other, COUNTED_SIGN));
            }
        }

        boolean haveSameSigns(int one, int other) {
            if (sizes[one] != sizes[other]) {
                return false;
            }
            for (int place = 0; place < sizes[one]; place++) {
                if (sign(one, place) != sign(other, place)) {
                    return false;
                }
            }
            return true;
        }

        int codeOf(int seat) {
            int code = 0;
            for (int place = 0; place < sizes[seat]; place++) {
                code = code * 31 + SIGN_CODES[sign(seat, place)];
            }
            return code;
        }

        int codeOfThree(int one, int other, int third) {
            int code = 31 + codeOf(one);
            code = code * 31 + codeOf(other);
            return code * 31 + codeOf(third);
        }

        int countOf(int seat, int sign) {
            int many = 0;
            for (int place = 0; place < sizes[seat]; place++) {
                if (sign(seat, place) == sign) {
                    many++;
                }
            }
            return many;
        }

        int countSigns() {
            int many = 0;
            for (int seat = 0; seat < SEATS; seat++) {
                many += Math.max(sizes[seat], 0);
            }
            return many;
        }

        int countAway() {
            int many = 0;
            for (int seat = 0; seat < SEATS; seat++) {
                if (isAway(seat)) {
                    many++;
                }
            }
            return many;
        }

        /** -1 if the first number is the smaller one, 1 if the second one is, 0 if they are alike. */
        private static int smaller(int one, int other) {
            return one < other ? -1 : one > other ? 1 : 0;
        }
    }

    /** What lies inside of a length; the numbers are long, so that FAR ones are held too. */
    private static final class Inside {

        private static final int FIRST = -2;
        private static final int LAST = 26;

        static long far(int number) {
            return number * FAR;
        }

        static boolean holdsPlace(long place, long length) {
            return 0 <= place && place < length;
        }

        static boolean holdsSpan(long from, long to, long length) {
            return 0 <= from && from <= to && to <= length;
        }

        static boolean holdsStretch(long from, long size, long length) {
            // The sum of two FAR numbers can wrap around; the difference of two that are not below 0 can't.
            return 0 <= from && 0 <= size && 0 <= length && from <= length - size;
        }

        static int countPlaces(int length) {
            int many = 0;
            for (int place = FIRST; place <= LAST; place++) {
                if (holdsPlace(place, length)) {
                    many++;
                }
            }
            return many;
        }

        static int countSpans(int length) {
            int many = 0;
            for (int from = FIRST; from <= LAST; from++) {
                for (int to = FIRST; to <= LAST; to++) {
                    if (holdsSpan(from, to, length)) {
                        many++;
                    }
                }
            }
            return many;
        }

        static int countStretches(int length) {
            int many = 0;
            for (int from = FIRST; from <= LAST; from++) {
                for (int size = FIRST; size <= LAST; size++) {
                    if (holdsStretch(from, size, length)) {
                        many++;
                    }
                }
            }
            return many;
        }
    }

    /** What isSound() tells; it asks the texts and not the face, so that nothing of it is counted. */
    private static final class Soundness {

        static boolean holds(Texts texts) {
            for (int one = 0; one < SEATS; one++) {
                if (!texts.isAway(one) && !isSoundAlone(texts, one)) {
                    return false;
                }
                for (int other = 0; other < SEATS; other++) {
                    if (!isSoundPair(texts, one, other)) {
                        return false;
                    }
                }
            }
            return areChainsSound(texts);
        }

        private static boolean isSoundAlone(Texts texts, int seat) {
            int size = texts.size(seat);
            for (int from = Inside.FIRST; from <= Inside.LAST; from++) {
                if (!isSoundPlace(from, size)) {
                    return false;
                }
                for (int to = Inside.FIRST; to <= Inside.LAST; to++) {
                    if (!isSoundSpan(texts, seat, from, to)) {
                        return false;
                    }
                }
            }
            return isBehindItsBeginnings(texts, seat);
        }

        private static boolean isSoundPlace(int place, int size) {
            boolean inside = Inside.holdsPlace(place, size);
            long far = Inside.far(place);
            long farNext = Inside.far(place + 1);
            long farSize = Inside.far(size);
            return Inside.holdsSpan(place, place + 1, size) == inside
                    && Inside.holdsStretch(place, 1, size) == inside
                    && Inside.holdsPlace(far, farSize) == inside
                    && Inside.holdsSpan(far, farNext, farSize) == inside
                    && Inside.holdsStretch(far, Inside.far(1), farSize) == inside;
        }

        private static boolean isSoundSpan(Texts texts, int seat, int from, int to) {
            int size = texts.size(seat);
            boolean inside = Inside.holdsSpan(from, to, size);
            if (Inside.holdsStretch(from, to - from, size) != inside) {
                return false;
            }
            return !inside || texts.lay(seat, from, to) == to - from;
        }

        private static boolean isBehindItsBeginnings(Texts texts, int seat) {
            int size = texts.size(seat);
            for (int shorter = 0; shorter < size; shorter++) {
                if (texts.comparedFrom(0, seat, size, seat, shorter) != 1) {
                    return false;
                }
            }
            return true;
        }

        private static boolean isSoundPair(Texts texts, int one, int other) {
            for (int order = 0; order <= LAST_ORDER; order++) {
                if (texts.ordered(one, other, order) != -texts.ordered(other, one, order)) {
                    return false;
                }
            }
            return texts.isAway(one) || texts.isAway(other) || isSoundPairThere(texts, one, other);
        }

        // The contents of a PAPER are told by haveSameSigns(), too: isLike() asks nothing else.
        private static boolean isSoundPairThere(Texts texts, int one, int other) {
            int first = texts.compared(one, other);
            boolean same = texts.haveSameSigns(one, other);
            return first == -texts.compared(other, one)
                    && (first == 0) == same
                    && (!same || texts.codeOf(one) == texts.codeOf(other));
        }

        /** Whether each one is COMPARED ahead of all that comes behind what is behind it. */
        private static boolean areChainsSound(Texts texts) {
            for (int one = 0; one < SEATS; one++) {
                for (int other = 0; other < SEATS; other++) {
                    if (!isThereAhead(texts, one, other)) {
                        continue;
                    }
                    for (int third = 0; third < SEATS; third++) {
                        if (isThereAhead(texts, other, third) && !isThereAhead(texts, one, third)) {
                            return false;
                        }
                    }
                }
            }
            return true;
        }

        private static boolean isThereAhead(Texts texts, int one, int other) {
            return !texts.isAway(one) && !texts.isAway(other) && texts.compared(one, other) < 0;
        }
    }
}
