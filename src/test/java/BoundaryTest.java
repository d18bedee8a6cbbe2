/** Every sentence of the document that names a boundary case, each with a test of its own. */
public final class BoundaryTest {
    public static void main(String[] args) {
        ToldBoundaries.run();
        WeeksBoundaries.run();
        PlansBoundaries.run();
        SheetsBoundaries.run();
        RefusalBoundaries.run();
        int wrong = Boundaries.end();
        System.out.println(wrong == 0 ? "all " + Boundaries.sentences() + " sentences hold" : wrong + " answers are not as due");
        if (wrong != 0) System.exit(1);
    }
}
