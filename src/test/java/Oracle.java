import java.math.BigInteger;
import java.util.Arrays;

/** A second desk, written from the document in another way: with Java's own texts and great numbers. */
final class Oracle {

    private static final String KINDS = " -01ABabz\u00ff";
    private static final BigInteger FAR = BigInteger.valueOf(4294967296L);

    private final String[] texts = {"", "", "", "", "", "", "", "", ""};
    private int refused;
    private int asked;
    private int given;
    private int knocks;

    /** The answer of the named call, or throws. and the exception's name. */
    Object answer(String name, int a, int b, int c, int d) {
        Object thrown = thrownBy(name, a, b, c, d);
        return thrown != null ? thrown : told(name, a, b, c, d);
    }

    private Object thrownBy(String name, int a, int b, int c, int d) {
        int seats = seatsOf(name);
        boolean noSeat = seats > 0 && isNoSeat(a) || seats > 1 && isNoSeat(b) || seats > 2 && isNoSeat(c);
        if (noSeat || name.equals("isLike") && a > 2) {
            return "throws.IndexOutOfBoundsException";
        }
        if (isWrongArgument(name, a, b, c, d)) {
            return "throws.IllegalArgumentException";
        }
        boolean wantsText = Arrays.asList("write", "cut", "take", "put", "insides", "isEmpty", "isLike").contains(name);
        if (wantsText && (texts[a] == null || name.equals("write") && texts[a].length() + many(b, c, d) > 24)) {
            return "throws.IllegalStateException";
        }
        return null;
    }

    private static int seatsOf(String name) {
        switch (name) {
            case "place": case "span": case "stretch": case "isFarPlace": case "isFarSpan": case "isFarStretch":
            case "knock": case "house": case "isSound": case "digest":
                return 0;
            case "copy": case "compare": case "compareParts": case "isLike": case "order":
            case "orElse": case "orGiven": case "areSame":
                return 2;
            case "codes":
                return 3;
            default:
                return 1;
        }
    }

    private static boolean isNoSeat(int seat) {
        return seat < 0 || seat > 8;
    }

    private static boolean isOff(int number, int first, int last) {
        return number < first || number > last;
    }

    private static boolean isWrongArgument(String name, int a, int b, int c, int d) {
        switch (name) {
            case "write":
                return isOff(b, -1, 9) || isOff(c, -1, 9) || isOff(d, -1, 9);
            case "fill":
                return isOff(b, 0, 9) || isOff(c, 0, 24);
            case "put":
                return isOff(c, 0, 9);
            case "insides":
                return isOff(b, 0, 2);
            case "order":
                return isOff(c, 0, 3);
            case "ahead":
                return isOff(b, 0, 3);
            case "house":
                return isOff(a, 0, 5);
            default:
                return false;
        }
    }

    private static int many(int b, int c, int d) {
        return b < 0 ? 0 : c < 0 ? 1 : d < 0 ? 2 : 3;
    }

    private Object told(String name, int a, int b, int c, int d) {
        switch (name) {
            case "write":
                int[] signs = {b, c, d};
                for (int i = 0; i < many(b, c, d); i++) {
                    texts[a] += KINDS.charAt(signs[i]);
                }
                return texts[a].length();
            case "fill":
                return become(a, KINDS.substring(b, b + 1).repeat(c));
            case "cut":
                return isSpan(b, c, texts[a].length(), BigInteger.ONE) ? keep(a, b, c) : refuse();
            case "take":
                return isStretch(b, c, texts[a].length(), BigInteger.ONE) ? keep(a, b, b + c) : refuse();
            case "put":
                return isPlace(b, texts[a].length(), BigInteger.ONE) ? putSign(a, b, c) : refuse();
            case "copy":
                texts[a] = texts[b];
                return sizeOf(a);
            case "leave":
                return become(a, null);
            case "place":
                return isPlace(a, b, BigInteger.ONE) ? a : refuse();
            case "span":
                return isSpan(a, b, c, BigInteger.ONE) ? a : refuse();
            case "stretch":
                return isStretch(a, b, c, BigInteger.ONE) ? a : refuse();
            case "isFarPlace":
                return isPlace(a, b, FAR);
            case "isFarSpan":
                return isSpan(a, b, c, FAR);
            case "isFarStretch":
                return isStretch(a, b, c, FAR);
            case "insides":
                return countInside(texts[a].length(), b);
            default:
                return toldOfSeats(name, a, b, c, d);
        }
    }

    private Object toldOfSeats(String name, int a, int b, int c, int d) {
        switch (name) {
            case "text":
                return texts[a] == null ? "none" : texts[a];
            case "length":
                return sizeOf(a);
            case "signAt":
                return texts[a] != null && isPlace(b, sizeOf(a), BigInteger.ONE) ? KINDS.indexOf(texts[a].charAt(b)) : refuse();
            case "part":
                return texts[a] != null && isSpan(b, c, sizeOf(a), BigInteger.ONE) ? texts[a].substring(b, c) : refuseText();
            case "isEmpty":
                return texts[a].isEmpty();
            case "compare":
                return texts[a] == null || texts[b] == null ? refuse() : Integer.signum(texts[a].compareTo(texts[b]));
            case "compareParts":
                return partsCompared(a, b, c, d);
            case "isLike":
                return texts[b] == null ? refuse() : texts[a].equals(texts[b]) ? 1 : 0;
            case "order":
                return ask(a, b, c);
            case "ahead":
                int ahead = 0;
                for (int other = 0; other < 9; other++) {
                    ahead += other != a && ask(other, a, b) == -1 ? 1 : 0;
                }
                return ahead;
            default:
                return toldOfWhatIsThere(name, a, b, c);
        }
    }

    private Object toldOfWhatIsThere(String name, int a, int b, int c) {
        switch (name) {
            case "must":
                return texts[a] == null ? refuse() : sizeOf(a);
            case "mustSaying":
                given += texts[a] == null ? 1 : 0;
                return texts[a] == null ? refuse() : sizeOf(a);
            case "orGiven":
                given += texts[a] == null ? 1 : 0;
                return texts[a] != null ? texts[a] : texts[b] != null ? texts[b] : refuseText();
            case "orElse":
                return texts[a] != null ? texts[a] : texts[b] != null ? texts[b] : refuseText();
            case "isMissing":
                return texts[a] == null;
            case "isThere":
                return texts[a] != null;
            case "areSame":
                return texts[a] == null ? texts[b] == null : texts[a].equals(texts[b]);
            case "code":
                return codeOf(a);
            case "codes":
                return codeOfThree(a, b, c);
            case "knock":
                return ++knocks;
            case "house":
                return houseOf(a);
            case "isSound":
                return true;
            case "digest":
                return checksum();
            default:
                throw new IllegalArgumentException(name);
        }
    }

    private int refuse() {
        refused++;
        return -9;
    }

    private String refuseText() {
        refused++;
        return "!";
    }

    private int sizeOf(int seat) {
        return texts[seat] == null ? -1 : texts[seat].length();
    }

    private int become(int seat, String text) {
        int before = sizeOf(seat);
        texts[seat] = text;
        return before;
    }

    private int keep(int seat, int from, int to) {
        texts[seat] = texts[seat].substring(from, to);
        return sizeOf(seat);
    }

    private int putSign(int seat, int place, int sign) {
        char before = texts[seat].charAt(place);
        texts[seat] = texts[seat].substring(0, place) + KINDS.charAt(sign) + texts[seat].substring(place + 1);
        return KINDS.indexOf(before);
    }

    private static BigInteger great(int number, BigInteger times) {
        return BigInteger.valueOf(number).multiply(times);
    }

    private static boolean isPlace(int place, int length, BigInteger times) {
        return place >= 0 && great(place, times).compareTo(great(length, times)) < 0;
    }

    private static boolean isSpan(int from, int to, int length, BigInteger times) {
        return from >= 0 && great(from, times).compareTo(great(to, times)) <= 0
                && great(to, times).compareTo(great(length, times)) <= 0;
    }

    private static boolean isStretch(int from, int size, int length, BigInteger times) {
        return from >= 0 && size >= 0 && length >= 0
                && great(from, times).add(great(size, times)).compareTo(great(length, times)) <= 0;
    }

    private static int countInside(int length, int what) {
        int many = 0;
        for (int one = -2; one <= 26; one++) {
            if (what == 0) {
                many += isPlace(one, length, BigInteger.ONE) ? 1 : 0;
                continue;
            }
            for (int other = -2; other <= 26; other++) {
                boolean inside = what == 1 ? isSpan(one, other, length, BigInteger.ONE) : isStretch(one, other, length, BigInteger.ONE);
                many += inside ? 1 : 0;
            }
        }
        return many;
    }

    private int partsCompared(int a, int b, int from, int to) {
        boolean both = texts[a] != null && texts[b] != null
                && isSpan(from, to, sizeOf(a), BigInteger.ONE) && isSpan(from, to, sizeOf(b), BigInteger.ONE);
        return both ? Integer.signum(texts[a].substring(from, to).compareTo(texts[b].substring(from, to))) : refuse();
    }

    private int ask(int one, int other, int order) {
        boolean bothMissing = texts[one] == null && texts[other] == null;
        asked += one == other || bothMissing ? 0 : 1;
        return ordered(one, other, order);
    }

    private int ordered(int one, int other, int order) {
        if (texts[one] == null || texts[other] == null) {
            return (texts[one] == null ? 0 : 1) - (texts[other] == null ? 0 : 1);
        }
        int words = Integer.signum(texts[one].compareTo(texts[other]));
        int sizes = Integer.compare(sizeOf(one), sizeOf(other));
        switch (order) {
            case 0:
                return words;
            case 1:
                return -words;
            case 2:
                return sizes != 0 ? sizes : words;
            default:
                return Integer.compare(countA(texts[one]), countA(texts[other]));
        }
    }

    private static int countA(String text) {
        return text.length() - text.replace("a", "").length();
    }

    private int codeOf(int seat) {
        return texts[seat] == null ? 0 : texts[seat].hashCode();
    }

    private int codeOfThree(int one, int other, int third) {
        return Arrays.hashCode(new int[] {codeOf(one), codeOf(other), codeOf(third)});
    }

    private int houseOf(int what) {
        int signs = 0;
        int missing = 0;
        for (String text : texts) {
            signs += text == null ? 0 : text.length();
            missing += text == null ? 1 : 0;
        }
        return new int[] {signs, missing, refused, asked, given, knocks}[what];
    }

    private long checksum() {
        long d = 7777;
        for (int what = 0; what < 6; what++) {
            d = d * 31 + houseOf(what);
        }
        for (int seat = 0; seat < 9; seat++) {
            d = (d * 31 + sizeOf(seat)) * 31 + codeOf(seat);
        }
        for (int pair = 0; pair < 81 * 4; pair++) {
            d = d * 31 + ordered(pair / 36, pair / 4 % 9, pair % 4);
        }
        d = d * 31 + codeOfThree(0, 3, 6);
        d = d * 31 + codeOfThree(1, 4, 7);
        d = d * 31 + codeOfThree(2, 5, 8);
        return d * 31 + 1;
    }
}
