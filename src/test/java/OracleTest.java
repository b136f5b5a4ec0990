import java.util.Random;

/** Long runs of calls on a desk and on the Oracle beside it; the seeds are fixed, so each run is always the same. */
public final class OracleTest {

    private static final String[] NAMES = {
        "write", "fill", "cut", "take", "put", "copy", "leave", "place", "span", "stretch", "isFarPlace", "isFarSpan",
        "isFarStretch", "insides", "text", "length", "signAt", "part", "isEmpty", "compare", "compareParts", "isLike",
        "order", "ahead", "must", "mustSaying", "orElse", "orGiven", "isMissing", "isThere", "areSame", "code", "codes",
        "knock", "house", "isSound", "digest",
    };
    private static final int[] EDGES = {
        Integer.MIN_VALUE, Integer.MIN_VALUE + 1, -(1 << 30), -10, -9, -2, -1, 0, 1, 8, 9, 10, 23, 24, 25, 26, 1 << 30,
        Integer.MAX_VALUE - 1, Integer.MAX_VALUE,
    };
    private static final int RUNS = 400;
    /** With digest() at the end 512, as many as are promised. */
    private static final int CALLS = 511;

    public static void main(String[] args) {
        for (int run = 0; run < RUNS; run++) {
            runBeside(new Random(run), run);
        }
        Due.end("OracleTest");
    }

    private static void runBeside(Random random, int run) {
        Checkdesk x = new Checkdesk();
        Oracle oracle = new Oracle();
        int oddsOfEdges = random.nextInt(12) + 1;
        for (int call = 0; call < CALLS; call++) {
            // Writing comes more often, so that there is something to tell of.
            String name = random.nextInt(4) == 0 ? "write" : NAMES[random.nextInt(NAMES.length)];
            int[] n = numbers(random, name, oddsOfEdges);
            Object got = Due.tried(() -> answer(x, name, n[0], n[1], n[2], n[3]));
            Object want = oracle.answer(name, n[0], n[1], n[2], n[3]);
            Due.is("run " + run + " call " + call + " " + name + "(" + n[0] + ", " + n[1] + ", " + n[2] + ", " + n[3] + ")", got, want);
        }
        Due.is("run " + run + " digest", x.digest(), oracle.answer("digest", 0, 0, 0, 0));
    }

    private static int[] numbers(Random random, String name, int oddsOfEdges) {
        int[] n = new int[4];
        boolean likeFirst = name.equals("order") || name.equals("compareParts") || name.startsWith("is");
        for (int i = 0; i < 4; i++) {
            if (random.nextInt(oddsOfEdges * 6) == 0) {
                n[i] = EDGES[random.nextInt(EDGES.length)];
            } else if (i == 0) {
                n[i] = random.nextInt(name.equals("isLike") ? 3 : name.equals("house") ? 6 : 9);
            } else {
                n[i] = random.nextInt(likeFirst ? 4 : 9);
            }
        }
        return n;
    }

    private static Object answer(Checkdesk x, String name, int a, int b, int c, int d) {
        switch (name) {
            case "write": return x.write(a, b, c, d);
            case "fill": return x.fill(a, b, c);
            case "cut": return x.cut(a, b, c);
            case "take": return x.take(a, b, c);
            case "put": return x.put(a, b, c);
            case "copy": return x.copy(a, b);
            case "leave": return x.leave(a);
            case "place": return x.place(a, b);
            case "span": return x.span(a, b, c);
            case "stretch": return x.stretch(a, b, c);
            case "isFarPlace": return x.isFarPlace(a, b);
            case "isFarSpan": return x.isFarSpan(a, b, c);
            case "isFarStretch": return x.isFarStretch(a, b, c);
            case "insides": return x.insides(a, b);
            case "text": return x.text(a);
            case "length": return x.length(a);
            case "signAt": return x.signAt(a, b);
            case "part": return x.part(a, b, c);
            case "isEmpty": return x.isEmpty(a);
            case "compare": return x.compare(a, b);
            case "compareParts": return x.compareParts(a, b, c, d);
            case "isLike": return x.isLike(a, b);
            case "order": return x.order(a, b, c);
            case "ahead": return x.ahead(a, b);
            case "must": return x.must(a);
            case "mustSaying": return x.mustSaying(a);
            case "orElse": return x.orElse(a, b);
            case "orGiven": return x.orGiven(a, b);
            case "isMissing": return x.isMissing(a);
            case "isThere": return x.isThere(a);
            case "areSame": return x.areSame(a, b);
            case "code": return x.code(a);
            case "codes": return x.codes(a, b, c);
            case "knock": return x.knock();
            case "house": return x.house(a);
            case "isSound": return x.isSound();
            case "digest": return x.digest();
            default: throw new IllegalStateException("no such call: " + name);
        }
    }
}
