/** Promises 30 to 36: patterns; and 37 to 40: statistics. */
public final class PatternsTest {
    public static void main(String[] args) {
        Check.watch();
        empty();
        period(1, 2);
        period(1, 2, 2, 2);
        period(2, 2, 4, 2, 4);
        period(2, 2, 4, 2, 4, 2);
        period(4, 2, 2, 2, 4);
        period(3, 2, 2, 4, 2, 2);
        period(3, 2, 4, 8, 2, 4, 8, 2);
        period(3, 2, 4, 2, 2, 4);
        period(4, 2, 4, 2, 2, 2, 4);
        colours();
        occurrences();
        distinctRows();
        distance();
        longestFloat();
        symmetry();
        totals();
        meanRaised();
        knotShare();
        Check.end();
    }

    private static void empty() {
        CandleLoom loom = new CandleLoom();
        Check.fails("period", Check.NONE, () -> loom.period());
        Check.fails("period by borders", Check.NONE, () -> loom.periodByBorders());
        Check.fails("occurrences of 0", Check.RANGE, () -> loom.occurrences(0));
        Check.fails("occurrences of 1", Check.RANGE, () -> loom.occurrences(1));
        Check.same("distinct", 0, loom.distinctRows());
        Check.fails("distance", Check.INDEX, () -> loom.distance(0, 0));
        Check.same("float", 0, loom.longestFloat(0));
        Check.yes("symmetric", loom.isSymmetric());
        Check.fails("mean", Check.NO_ROWS, () -> loom.meanRaised());
        Check.fails("share", Check.NO_ROWS, () -> loom.knotShare());
    }

    private static void period(int due, int... masks) {
        CandleLoom loom = Check.cloth(masks);
        String what = "of " + java.util.Arrays.toString(masks);
        Check.same("period " + what, due, loom.period());
        Check.same("period by borders " + what, due, loom.periodByBorders());
        loom.knot(0, 0);
        Check.same("knots don't matter " + what, due, loom.period());
        Check.same("knots don't matter by borders " + what, due, loom.periodByBorders());
    }

    private static void colours() {
        CandleLoom loom = Check.lit(1, 2, 9);
        loom.addWick(2, 4, 99);
        loom.addWick(2, 4, 99);
        loom.weave(2);
        loom.light(1);
        loom.light(2);
        loom.weave(1);
        Check.same("the mask is the same", 0, loom.distance(1, 2));
        Check.same("period", 3, loom.period());
        Check.same("period by borders", 3, loom.periodByBorders());
        Check.same("occurrences", 1, loom.occurrences(1));
        Check.same("distinct", 2, loom.distinctRows());
        Check.no("symmetric", loom.isSymmetric());
    }

    private static void occurrences() {
        CandleLoom loom = Check.cloth(2, 2, 4, 2, 2, 2);
        Check.fails("0 rows", Check.RANGE, () -> loom.occurrences(0));
        Check.fails("-1 rows", Check.RANGE, () -> loom.occurrences(-1));
        Check.fails("7 rows", Check.RANGE, () -> loom.occurrences(7));
        int[] due = {5, 3, 1, 1, 1, 1};
        for (int rows = 1; rows <= 6; rows++) {
            Check.same("last " + rows, due[rows - 1], loom.occurrences(rows));
        }
        CandleLoom waves = Check.cloth(2, 4, 2, 4, 2);
        Check.same("overlapping", 2, waves.occurrences(3));
        Check.same("in order", 2, waves.occurrences(2));
        waves.knot(4, 4);
        Check.same("knots don't matter", 3, waves.occurrences(1));
    }

    private static void distinctRows() {
        CandleLoom loom = Check.cloth(2, 4, 2, 8, 8, 4, 2);
        Check.same("distinct", 3, loom.distinctRows());
        loom.knot(0, 0);
        Check.same("knots don't matter", 3, loom.distinctRows());
        Check.same("one", 1, Check.cloth(2).distinctRows());
    }

    private static void distance() {
        CandleLoom loom = Check.cloth(2, 254, 4);
        Check.same("0 and 1", 6, loom.distance(0, 1));
        Check.same("1 and 0", 6, loom.distance(1, 0));
        Check.same("0 and 2", 2, loom.distance(0, 2));
        Check.same("the same", 0, loom.distance(1, 1));
        Check.fails("first -1", Check.INDEX, () -> loom.distance(-1, 0));
        Check.fails("first 3", Check.INDEX, () -> loom.distance(3, 0));
        Check.fails("second -1", Check.INDEX, () -> loom.distance(0, -1));
        Check.fails("second 3", Check.INDEX, () -> loom.distance(0, 3));
    }

    private static void longestFloat() {
        CandleLoom loom = Check.cloth(2, 6, 4, 6, 6, 2, 4);
        Check.same("column 1", 3, loom.longestFloat(1));
        Check.same("column 2", 4, loom.longestFloat(2));
        Check.same("column 8", 7, loom.longestFloat(8));
        Check.same("column 0", 0, loom.longestFloat(0));
        Check.same("column 15", 0, loom.longestFloat(15));
        Check.fails("column -1", Check.INDEX, () -> loom.longestFloat(-1));
        Check.fails("column 16", Check.INDEX, () -> loom.longestFloat(16));
    }

    private static void symmetry() {
        Check.yes("one row", Check.cloth(2).isSymmetric());
        Check.yes("odd", Check.cloth(2, 4, 2).isSymmetric());
        Check.yes("even", Check.cloth(2, 4, 4, 2).isSymmetric());
        Check.no("two rows", Check.cloth(2, 4).isSymmetric());
        Check.no("inside", Check.cloth(2, 4, 8, 2).isSymmetric());
        CandleLoom loom = Check.cloth(2, 4, 2);
        loom.knot(0, 0);
        Check.yes("knots don't matter", loom.isSymmetric());
    }

    private static void totals() {
        CandleLoom loom = Check.lit(0, 2, 3, 1, 4, 5);
        loom.weave(2);
        Check.same("woven", 2, loom.wovenTotal());
        Check.same("wax", 4, loom.waxUsed());
        loom.weave(10);
        Check.same("woven until dark", 5, loom.wovenTotal());
        Check.same("wax of all", 8, loom.waxUsed());
        loom.repeatLast(5, 1);
        loom.ravel(10);
        Check.same("woven stays", 5, loom.wovenTotal());
        Check.same("wax stays", 8, loom.waxUsed());
        loom.addWax(0, 5);
        Check.same("adding is not using", 8, loom.waxUsed());
        loom.light(0);
        loom.weave(1);
        Check.same("woven further", 6, loom.wovenTotal());
        Check.same("wax further", 9, loom.waxUsed());
    }

    private static void meanRaised() {
        CandleLoom loom = Check.cloth(2, 4, 254);
        Check.same("mean", 12.0 / 3.0, loom.meanRaised());
        loom.ravel(1);
        Check.same("mean", 2.0, loom.meanRaised());
        Check.same("thirds", 7.0 / 3.0, Check.cloth(2, 4, 6).meanRaised());
        CandleLoom two = Check.lit(0, 3, 9, 0, 3, 9);
        two.weave(1);
        Check.same("none raised", 0.0, two.meanRaised());
    }

    private static void knotShare() {
        CandleLoom loom = Check.cloth(2, 4, 254);
        Check.same("no knots", 0f, loom.knotShare());
        loom.knot(0, 0);
        Check.same("one", 1f / 48f, loom.knotShare());
        loom.knot(2, 15);
        loom.knot(2, 14);
        Check.same("three", 3f / 48f, loom.knotShare());
        loom.weave(10);
        Check.same("of more cells", 3f / 208f, loom.knotShare());
    }
}
