/** Promises 14 to 29. */
public final class ClothTest {
    public static void main(String[] args) {
        Check.watch();
        weave();
        weaveLimits();
        rowColours();
        edges();
        mend();
        ravel();
        repeatLast();
        knots();
        nextKnot();
        rows();
        Check.end();
    }

    private static void weave() {
        CandleLoom loom = new CandleLoom();
        Check.fails("0 rows", Check.RANGE, () -> loom.weave(0));
        Check.fails("11 rows", Check.RANGE, () -> loom.weave(11));
        Check.fails("-1 rows", Check.RANGE, () -> loom.weave(-1));
        Check.denied("no wicks", loom, 2, 0, () -> loom.weave(1));
        loom.addWick(4, 6, 3);
        loom.addWick(5, 12, 5);
        Check.denied("none lit", loom, 2, 2, () -> loom.weave(10));
        loom.light(0);
        loom.light(1);
        Check.same("stops when it is dark", 5, loom.weave(10));
        Check.same("rows", 5, loom.rowCount());
        Check.same("both raise", 10, loom.rowMask(2));
        Check.same("one is out", 12, loom.rowMask(3));
        Check.same("wax used", 8, loom.waxUsed());
        Check.denied("dark again", loom, 2, 2, () -> loom.weave(1));
    }

    private static void weaveLimits() {
        CandleLoom loom = Check.lit(0, 2, 99);
        for (int i = 0; i < 3; i++) {
            Check.same("ten rows", 10, loom.weave(10));
        }
        loom.weave(1);
        Check.denied("41 rows", loom, 1, 40, () -> loom.weave(10));
        Check.same("none woven", 31, loom.rowCount());
        Check.same("40 rows", 9, loom.weave(9));
        Check.denied("one more", loom, 1, 40, () -> loom.weave(1));
        Check.fails("range first", Check.RANGE, () -> loom.weave(11));
        loom.snuff(0);
        Check.denied("dark before the limit", loom, 2, 1, () -> loom.weave(1));
        Check.same("wax", 59, loom.wax(0));

        CandleLoom brief = Check.lit(0, 2, 35, 0, 2, 36);
        brief.weave(10);
        brief.weave(10);
        brief.weave(10);
        brief.weave(5);
        Check.denied("all of the rows count, even if it would be dark", brief, 1, 40, () -> brief.weave(6));
        Check.same("one row left", 1, brief.weave(5));
    }

    private static void rowColours() {
        CandleLoom loom = Check.lit(1, 2, 3, 2, 4, 4, 3, 8, 4);
        loom.addWick(6, 16, 99);
        loom.weave(1);
        Check.same("most wax, smallest index", 2, loom.rowColour(0));
        loom.snuff(1);
        loom.weave(1);
        Check.same("of the lit ones", 3, loom.rowColour(1));
        loom.addWax(0, 2);
        loom.weave(1);
        Check.same("the wax of now", 1, loom.rowColour(2));
        CandleLoom black = Check.lit(0, 2, 1, 5, 2, 1);
        black.weave(1);
        Check.same("colour 0", 0, black.rowColour(0));
        Check.same("masks cancel", 0, black.rowMask(0));
    }

    private static void edges() {
        CandleLoom loom = Check.lit(0, 1, 99);
        loom.weave(4);
        Check.same("heat", 4, loom.heat('l'));
        Check.same("cold on the right", 0, loom.heat('r'));
        Check.same("not yet burnt", 0, loom.burn('l'));
        loom.weave(1);
        Check.same("heat is gone", 0, loom.heat('l'));
        Check.same("burnt", 1, loom.burn('l'));
        Check.same("the row that burns is whole", 1, loom.rowMask(4));
        Check.same("not burnt on the right", 0, loom.burn('r'));
        loom.weave(1);
        Check.same("the next row is not", 0, loom.rowMask(5));
        Check.same("the pattern heats, not the mask", 1, loom.heat('l'));
        loom.snuff(0);
        loom.addWick(0, 32768, 99);
        loom.light(1);
        loom.weave(3);
        Check.same("cooled", 0, loom.heat('l'));
        Check.same("the burn stays", 1, loom.burn('l'));
        Check.same("heat on the right", 3, loom.heat('r'));
        loom.light(0);
        loom.weave(3);
        Check.same("burnt on the right", 1, loom.burn('r'));
        Check.same("heat on the right again", 1, loom.heat('r'));
        Check.same("whole on the right", 32768, loom.rowMask(10));
        Check.same("burnt on both", 0, loom.rowMask(11));

        CandleLoom hot = Check.lit(0, 65535, 99);
        int[] due = {65535, 65534 & 32767, 65532 & 16383, 65528 & 8191, 4080, 4080, 4080};
        for (int i = 0; i < due.length; i++) {
            hot.weave(5);
            Check.same("hot row " + i, due[i], hot.rowMask(5 * i));
            Check.same("left burn " + i, Math.min(i + 1, 4), hot.burn('l'));
            Check.same("right burn " + i, Math.min(i + 1, 4), hot.burn('r'));
            Check.same("left heat " + i, 0, hot.heat('l'));
            Check.same("right heat " + i, 0, hot.heat('r'));
        }
        Check.fails("burn x", Check.RANGE, () -> hot.burn('x'));
        Check.fails("burn L", Check.RANGE, () -> hot.burn('L'));
        Check.fails("heat x", Check.RANGE, () -> hot.heat('x'));
        Check.fails("heat R", Check.RANGE, () -> hot.heat('R'));
        Check.fails("heat 0", Check.RANGE, () -> hot.heat((char) 0));
    }

    private static void mend() {
        CandleLoom loom = Check.lit(0, 32769, 99);
        loom.weave(4);
        Check.denied("heat alone", loom, 5, 0, () -> loom.mend('l'));
        Check.same("the heat stays", 4, loom.heat('l'));
        loom.weave(8);
        Check.fails("mend x", Check.RANGE, () -> loom.mend('x'));
        Check.fails("mend R", Check.RANGE, () -> loom.mend('R'));
        Check.same("heat", 2, loom.heat('l'));
        Check.same("mend left", 1, loom.mend('l'));
        Check.same("mended", 1, loom.burn('l'));
        Check.same("cooled", 0, loom.heat('l'));
        Check.same("right heat", 2, loom.heat('r'));
        Check.same("right burn", 2, loom.burn('r'));
        Check.same("mend again", 0, loom.mend('l'));
        Check.denied("mend whole", loom, 5, 0, () -> loom.mend('l'));
        Check.same("the right edge", 1, loom.mend('r'));
        Check.same("woven rows stay", 0, loom.rowMask(11));
        Check.same("the left column is back", 1, loom.nextMask());
    }

    private static void ravel() {
        CandleLoom loom = Check.lit(0, 2, 99);
        Check.fails("0 rows", Check.RANGE, () -> loom.ravel(0));
        Check.fails("11 rows", Check.RANGE, () -> loom.ravel(11));
        Check.denied("empty", loom, 4, 0, () -> loom.ravel(1));
        loom.weave(9);
        Check.denied("too few", loom, 4, 9, () -> loom.ravel(10));
        loom.knot(5, 0);
        loom.knot(6, 15);
        loom.knot(6, 3);
        Check.denied("too few before knots", loom, 4, 9, () -> loom.ravel(10));
        Check.denied("two rows are held", loom, 3, 6, () -> loom.ravel(9));
        Check.denied("the first row is held", loom, 3, 6, () -> loom.ravel(3));
        Check.same("behind the knots", 7, loom.ravel(2));
        loom.untie(6, 15);
        loom.untie(6, 3);
        Check.same("untied", 6, loom.ravel(1));
        Check.denied("row 5 is held", loom, 3, 5, () -> loom.ravel(1));
        loom.untie(5, 0);
        Check.same("all", 0, loom.ravel(6));
        Check.same("woven rows still count", 9, loom.wovenTotal());
        Check.same("the wax is gone", 90, loom.wax(0));
        loom.weave(10);
        Check.same("ten at once", 0, loom.ravel(10));
        Check.fails("no such row any more", Check.INDEX, () -> loom.rowMask(0));
    }

    private static void repeatLast() {
        CandleLoom loom = Check.cloth(2, 4);
        Check.fails("0 rows", Check.RANGE, () -> loom.repeatLast(0, 1));
        Check.fails("21 rows", Check.RANGE, () -> loom.repeatLast(21, 1));
        Check.fails("0 times", Check.RANGE, () -> loom.repeatLast(1, 0));
        Check.fails("10 times", Check.RANGE, () -> loom.repeatLast(1, 10));
        Check.denied("too few", loom, 4, 2, () -> loom.repeatLast(3, 1));
        Check.denied("too few before the limit", loom, 4, 2, () -> loom.repeatLast(20, 9));
        loom.knot(1, 4);
        int wax = loom.waxUsed();
        Check.same("twice two", 6, loom.repeatLast(2, 2));
        int[] due = {258, 260, 258, 260, 258, 260};
        for (int row = 0; row < due.length; row++) {
            Check.same("row " + row, due[row], loom.rowMask(row));
            Check.same("colour " + row, 3, loom.rowColour(row));
        }
        Check.no("no knot", loom.isKnotted(3, 4));
        Check.same("one knot", 1, loom.knotCount());
        Check.same("no wax", wax, loom.waxUsed());
        Check.same("none woven", 2, loom.wovenTotal());
        Check.same("nine times three", 33, loom.repeatLast(3, 9));
        Check.denied("41 rows", loom, 1, 40, () -> loom.repeatLast(4, 2));
        Check.same("40 rows", 40, loom.repeatLast(7, 1));
        Check.denied("one more", loom, 1, 40, () -> loom.repeatLast(1, 1));
        CandleLoom whole = Check.lit(2, 2, 20);
        whole.weave(10);
        whole.weave(10);
        Check.same("twenty at once, in the dark", 40, whole.repeatLast(20, 1));
        Check.same("the colour is copied", 2, whole.rowColour(39));
        Check.same("no heat from copies", 0, whole.heat('l'));
    }

    private static void knots() {
        CandleLoom loom = Check.lit(0, 2, 99);
        Check.fails("no rows", Check.INDEX, () -> loom.knot(0, 0));
        loom.weave(3);
        Check.fails("knot row -1", Check.INDEX, () -> loom.knot(-1, 0));
        Check.fails("knot row 3", Check.INDEX, () -> loom.knot(3, 0));
        Check.fails("knot column -1", Check.INDEX, () -> loom.knot(0, -1));
        Check.fails("knot column 16", Check.INDEX, () -> loom.knot(0, 16));
        Check.fails("untie row 3", Check.INDEX, () -> loom.untie(3, 0));
        Check.fails("untie row -1", Check.INDEX, () -> loom.untie(-1, 0));
        Check.fails("untie column 16", Check.INDEX, () -> loom.untie(0, 16));
        Check.fails("untie column -1", Check.INDEX, () -> loom.untie(0, -1));
        Check.denied("untie nothing", loom, 5, 0, () -> loom.untie(0, 0));
        Check.same("first knot", 1, loom.knot(0, 0));
        Check.same("second knot", 2, loom.knot(2, 15));
        Check.denied("knot a knot", loom, 5, 1, () -> loom.knot(2, 15));
        Check.yes("knotted", loom.isKnotted(2, 15));
        Check.no("the cell beside it", loom.isKnotted(2, 14));
        Check.no("the row before it", loom.isKnotted(1, 15));
        Check.same("knots", 2, loom.knotCount());
        Check.same("untie", 1, loom.untie(0, 0));
        Check.no("untied", loom.isKnotted(0, 0));
        Check.same("knots left", 1, loom.knotCount());
        Check.same("masks stay", 2, loom.rowMask(2));
        loom.untie(2, 15);
        loom.ravel(1);
        loom.weave(1);
        Check.same("a new row has no knots", 0, loom.knotCount());
        Check.fails("isKnotted row 3", Check.INDEX, () -> loom.isKnotted(3, 0));
        Check.fails("isKnotted row -1", Check.INDEX, () -> loom.isKnotted(-1, 0));
        Check.fails("isKnotted column 16", Check.INDEX, () -> loom.isKnotted(0, 16));
        Check.fails("isKnotted column -1", Check.INDEX, () -> loom.isKnotted(0, -1));
    }

    private static void nextKnot() {
        CandleLoom loom = Check.lit(0, 2, 99);
        Check.fails("row of none", Check.INDEX, () -> loom.nextKnotRow(0));
        Check.fails("column of none", Check.INDEX, () -> loom.nextKnotColumn(0));
        loom.weave(5);
        Check.fails("no knot, row", Check.NONE, () -> loom.nextKnotRow(0));
        Check.fails("no knot, column", Check.NONE, () -> loom.nextKnotColumn(0));
        loom.knot(3, 15);
        loom.knot(1, 9);
        loom.knot(1, 4);
        int[][] due = {{1, 4}, {1, 4}, {3, 15}, {3, 15}};
        for (int row = 0; row < due.length; row++) {
            Check.same("row from " + row, due[row][0], loom.nextKnotRow(row));
            Check.same("column from " + row, due[row][1], loom.nextKnotColumn(row));
        }
        Check.fails("none from 4, row", Check.NONE, () -> loom.nextKnotRow(4));
        Check.fails("none from 4, column", Check.NONE, () -> loom.nextKnotColumn(4));
        Check.fails("row 5", Check.INDEX, () -> loom.nextKnotRow(5));
        Check.fails("row -1", Check.INDEX, () -> loom.nextKnotRow(-1));
        Check.fails("column from 5", Check.INDEX, () -> loom.nextKnotColumn(5));
        Check.fails("column from -1", Check.INDEX, () -> loom.nextKnotColumn(-1));
        loom.knot(0, 0);
        Check.same("column 0", 0, loom.nextKnotColumn(0));
        Check.same("row 0", 0, loom.nextKnotRow(0));
    }

    private static void rows() {
        CandleLoom loom = new CandleLoom();
        Check.fails("mask of none", Check.INDEX, () -> loom.rowMask(0));
        Check.fails("colour of none", Check.INDEX, () -> loom.rowColour(0));
        Check.fails("cell of none", Check.INDEX, () -> loom.isRaised(0, 0));
        loom.addWick(7, 32770, 99);
        loom.light(0);
        loom.weave(2);
        Check.same("rows", 2, loom.rowCount());
        Check.same("mask", 32770, loom.rowMask(1));
        Check.same("colour", 7, loom.rowColour(1));
        Check.yes("column 15", loom.isRaised(0, 15));
        Check.yes("column 1", loom.isRaised(1, 1));
        Check.no("column 0", loom.isRaised(1, 0));
        Check.no("column 14", loom.isRaised(1, 14));
        loom.addWick(6, 32768 | 16, 1);
        loom.light(1);
        loom.weave(1);
        Check.same("mask of another row", 18, loom.rowMask(2));
        Check.no("column 15 of another row", loom.isRaised(2, 15));
        Check.yes("column 4 of another row", loom.isRaised(2, 4));
        Check.no("column 4 of the first row", loom.isRaised(0, 4));
        loom.undo();
        Check.fails("mask -1", Check.INDEX, () -> loom.rowMask(-1));
        Check.fails("mask 2", Check.INDEX, () -> loom.rowMask(2));
        Check.fails("colour -1", Check.INDEX, () -> loom.rowColour(-1));
        Check.fails("colour 2", Check.INDEX, () -> loom.rowColour(2));
        Check.fails("cell row 2", Check.INDEX, () -> loom.isRaised(2, 0));
        Check.fails("cell row -1", Check.INDEX, () -> loom.isRaised(-1, 0));
        Check.fails("cell column -1", Check.INDEX, () -> loom.isRaised(0, -1));
        Check.fails("cell column 16", Check.INDEX, () -> loom.isRaised(0, 16));
    }
}
