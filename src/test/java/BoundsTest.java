/**
 * Each sentence of the document that names a boundary, with what holds the class just there. A sentence is cited in
 * the document's own words; at the end none may be left without a test.
 */
public final class BoundsTest {

    public static void main(String[] args) {
        HeadBounds.run();
        SeatsBounds.run();
        SeatArgumentBounds.run();
        InsideBounds.run();
        TextBounds.run();
        OrderBounds.run();
        ThereBounds.run();
        DeskBounds.run();
        Doc.allIsCited();
        Due.end("BoundsTest");
    }
}
