/** Promises 9 to 15: what lies inside. */
public final class InsideTest {

    private static final int LOW = Integer.MIN_VALUE;
    private static final int HIGH = Integer.MAX_VALUE;
    private static final int HALF = 1 << 30;

    public static void main(String[] args) {
        promises9And12();
        promises10And13();
        promises11And14();
        promise15();
        Due.end("InsideTest");
    }

    /** Rows of place, length, 1 if inside. */
    private static void promises9And12() {
        int[][] rows = {
            {0, 1, 1}, {0, 0, 0}, {1, 1, 0}, {-1, 1, 0}, {4, 5, 1}, {5, 5, 0}, {0, -1, 0}, {-2, -1, 0},
            {HIGH - 1, HIGH, 1}, {HIGH, HIGH, 0}, {LOW, HIGH, 0}, {LOW, LOW, 0}, {HIGH, LOW, 0}, {0, LOW, 0}, {0, HIGH, 1},
        };
        Checkdesk x = new Checkdesk();
        int refused = 0;
        for (int[] row : rows) {
            String told = row[0] + ", " + row[1];
            Due.is("place(" + told + ")", x.place(row[0], row[1]), row[2] == 1 ? row[0] : -9);
            Due.is("isFarPlace(" + told + ")", x.isFarPlace(row[0], row[1]), row[2] == 1);
            refused += 1 - row[2];
            Due.is("refused at " + told, x.house(2), refused);
        }
        Due.is("place(-9, 5)", x.place(-9, 5), -9);
        Due.is("place(-9, 5) is counted", x.house(2), refused + 1);
    }

    /** Rows of from, to, length, 1 if inside. */
    private static void promises10And13() {
        int[][] rows = {
            {0, 0, 0, 1}, {0, 5, 5, 1}, {5, 5, 5, 1}, {0, 6, 5, 0}, {6, 6, 5, 0}, {3, 2, 5, 0}, {-1, 0, 5, 0}, {-1, -1, 5, 0},
            {0, 0, -1, 0}, {0, -1, -1, 0}, {2, 3, 5, 1}, {HIGH, HIGH, HIGH, 1}, {0, HIGH, HIGH, 1}, {LOW, HIGH, HIGH, 0},
            {0, 1, LOW, 0}, {HIGH, LOW, HIGH, 0}, {LOW, LOW, LOW, 0}, {1, 1, 1, 1}, {1, 0, 1, 0}, {HALF, HIGH, HIGH - 1, 0},
        };
        Checkdesk x = new Checkdesk();
        int refused = 0;
        for (int[] row : rows) {
            String told = row[0] + ", " + row[1] + ", " + row[2];
            Due.is("span(" + told + ")", x.span(row[0], row[1], row[2]), row[3] == 1 ? row[0] : -9);
            Due.is("isFarSpan(" + told + ")", x.isFarSpan(row[0], row[1], row[2]), row[3] == 1);
            refused += 1 - row[3];
            Due.is("refused at " + told, x.house(2), refused);
        }
    }

    /** Rows of from, size, length, 1 if inside; some of their sums wrap around as ints, or as longs where FAR. */
    private static void promises11And14() {
        int[][] rows = {
            {0, 0, 0, 1}, {0, 5, 5, 1}, {5, 0, 5, 1}, {5, 1, 5, 0}, {3, 2, 5, 1}, {3, 3, 5, 0}, {3, -1, 5, 0}, {-1, 1, 5, 0},
            {-1, 6, 5, 0}, {0, 0, -1, 0}, {-1, 0, -1, 0}, {0, -1, -1, 0}, {6, -1, 5, 0},
            {HALF, HALF, HIGH, 0}, {HALF - 1, HALF, HIGH, 1}, {HIGH, HIGH, HIGH, 0}, {HIGH, 1, HIGH, 0}, {1, HIGH, HIGH, 0},
            {0, HIGH, HIGH, 1}, {HIGH, 0, HIGH, 1}, {HIGH, HIGH, 5, 0}, {HIGH, HIGH, 0, 0}, {LOW, LOW, 0, 0}, {LOW, LOW, 5, 0},
            {LOW, HIGH, 5, 0}, {HIGH, LOW, 5, 0}, {0, 0, LOW, 0}, {HIGH, HIGH, LOW, 0}, {HALF, HALF, LOW, 0}, {HALF, HALF, 0, 0},
        };
        Checkdesk x = new Checkdesk();
        int refused = 0;
        for (int[] row : rows) {
            String told = row[0] + ", " + row[1] + ", " + row[2];
            Due.is("stretch(" + told + ")", x.stretch(row[0], row[1], row[2]), row[3] == 1 ? row[0] : -9);
            Due.is("isFarStretch(" + told + ")", x.isFarStretch(row[0], row[1], row[2]), row[3] == 1);
            refused += 1 - row[3];
            Due.is("refused at " + told, x.house(2), refused);
        }
    }

    private static void promise15() {
        Checkdesk x = new Checkdesk();
        for (int size = 0; size <= 24; size++) {
            x.fill(6, 6, size);
            Due.is("places of " + size, x.insides(6, 0), size);
            Due.is("spans of " + size, x.insides(6, 1), (size + 1) * (size + 2) / 2);
            Due.is("stretches of " + size, x.insides(6, 2), (size + 1) * (size + 2) / 2);
        }
        x.leave(6);
        Due.noSeat("insides of no seat", () -> x.insides(9, 3));
        Due.noSeat("insides of no seat below", () -> x.insides(-1, 0));
        Due.noArgument("insides 3", () -> x.insides(6, 3));
        Due.noArgument("insides -1", () -> x.insides(0, -1));
        Due.noState("insides of nothing", () -> x.insides(6, 2));
        Due.is("nothing refused", x.house(2), 0);
    }
}
