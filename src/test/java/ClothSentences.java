/** Promises 14 to 29. */
final class ClothSentences extends Sentences {
    private static final String NO_SUCH_ROW = "Throws `IndexOutOfBoundsException` if there is no such row";
    private static final String NO_SUCH_CELL = "Throws `IndexOutOfBoundsException` if there is no such row or column";
    private static final String NO_SUCH_SIDE = "Throws `IllegalArgumentException` if there is no such side";
    private static final String NO_SUCH_KNOT = "Throws `NoSuchElementException` if there is no such cell";
    private static final String ROW = "`row`: the index of the row";
    private static final String FROM = "`row`: the index of the row from which the search begins";
    private static final String COLUMN = "`column`: the column, 0 to 15";
    private static final String SIDE = "`side`: 'l' for the left edge, 'r' for the right edge";
    private static final String ROWS_AT_ONCE = "`rows`: the number of rows, 1 to 10";
    private static final String ROWS_OUT_OF_RANGE =
            "Throws `IllegalArgumentException` if the number of rows is out of range";
    private static final String ROWS_AFTERWARDS = "Returns the number of rows of the cloth afterwards.";
    private static final String KNOTS_AFTERWARDS = "Returns the number of knotted cells of the cloth afterwards.";

    static void all() {
        weave();
        weaveDenials();
        ravel();
        ravelDenials();
        repeatLast();
        repeatLastBounds();
        knot();
        untie();
        mend();
        mendBounds();
        rowCount();
        rowMask();
        rowColour();
        isRaised();
        isKnotted();
        knotCount();
        nextKnotRow();
        nextKnotColumn();
        burn();
        heat();
    }

    private static void weave() {
        sentence(14, "Weaves rows, one after the other.", () -> {
            CandleLoom loom = Check.lit(1, 32771, 6, 2, 12, 2);
            is(6, loom.weave(6));
            int[] masks = {32783, 32783, 32771, 32771, 32771, 2};
            for (int row = 0; row < 6; row++) {
                is(masks[row], loom.rowMask(row));
                is(1, loom.rowColour(row));
            }
            is(1, loom.heat('l'));
            is(1, loom.burn('r'));
            is(8, loom.waxUsed());
            is(6, loom.wovenTotal());
            is(6, loom.rowCount());
        });
        sentence(14, "If no wick is lit any more after a row, weaving stops.", () -> {
            for (int wax = 1; wax <= 9; wax++) {
                CandleLoom loom = Check.lit(0, 2, wax, 0, 4, 1);
                is(wax, loom.weave(10));
                is(wax, loom.rowCount());
                is(wax, loom.wovenTotal());
                is(0, loom.litCount());
            }
            CandleLoom enough = Check.lit(0, 2, 10);
            is(10, enough.weave(10));
            is(0, enough.litCount());
        });
        sentence(14, ROWS_AT_ONCE, () -> {
            for (int rows = 1; rows <= 10; rows++) {
                CandleLoom loom = Check.lit(0, 2, 99);
                is(rows, loom.weave(rows));
                is(rows, loom.rowCount());
            }
        });
        sentence(14, "Returns the number of rows that are woven.", () -> {
            CandleLoom loom = Check.lit(0, 2, 13);
            is(10, loom.weave(10));
            is(1, loom.weave(1));
            is(2, loom.weave(5));
        });
        sentence(14, ROWS_OUT_OF_RANGE, () -> {
            CandleLoom loom = Check.lit(0, 2, 99);
            refuses(RANGE, () -> loom.weave(0));
            refuses(RANGE, () -> loom.weave(11));
            refuses(RANGE, () -> loom.weave(-1));
            refuses(RANGE, () -> loom.weave(LEAST));
            refuses(RANGE, () -> loom.weave(GREATEST));
            is(0, loom.rowCount());
            CandleLoom dark = new CandleLoom();
            refuses(RANGE, () -> dark.weave(0));
            refuses(RANGE, () -> dark.weave(11));
            refuses(NONE, () -> dark.denial());
        });
    }

    private static void weaveDenials() {
        sentence(14, "Throws `UnsupportedOperationException` if denied: 2, 1 (the cloth would have more than 40 rows "
                + "with all of these rows)", () -> {
            CandleLoom dark = wicks(5);
            denies(dark, 2, 5, () -> dark.weave(10));
            CandleLoom full = woven(40);
            denies(full, 1, 40, () -> full.weave(1));
            full.snuff(0);
            denies(full, 2, 1, () -> full.weave(1));
            for (int rows = 1; rows <= 10; rows++) {
                CandleLoom loom = woven(41 - rows);
                int tooMany = rows;
                denies(loom, 1, 40, () -> loom.weave(tooMany));
                is(41 - rows, loom.rowCount());
                if (rows > 1) {
                    is(rows - 1, loom.weave(rows - 1));
                    is(40, loom.rowCount());
                }
            }
            // Only one row would be woven, but all of these rows count.
            CandleLoom brief = woven(35);
            brief.snuff(0);
            brief.light(brief.addWick(0, 2, 1));
            denies(brief, 1, 40, () -> brief.weave(6));
            is(1, brief.weave(5));
            is(36, brief.rowCount());
        });
    }

    private static void ravel() {
        sentence(15, "Removes the last rows.", () -> {
            CandleLoom loom = Check.cloth(2, 4, 8, 16);
            loom.ravel(2);
            is(2, loom.rowCount());
            is(258, loom.rowMask(0));
            is(260, loom.rowMask(1));
            refuses(INDEX, () -> loom.rowMask(2));
            is(4, loom.wovenTotal());
            is(2, loom.distinctRows());
            is(2, loom.period());
        });
        sentence(15, ROWS_AT_ONCE, () -> {
            for (int rows = 1; rows <= 10; rows++) {
                CandleLoom loom = woven(11);
                is(11 - rows, loom.ravel(rows));
                is(11 - rows, loom.rowCount());
            }
        });
        sentence(15, ROWS_AFTERWARDS, () -> {
            CandleLoom loom = woven(40);
            is(39, loom.ravel(1));
            is(29, loom.ravel(10));
            is(19, loom.ravel(10));
            is(9, loom.ravel(10));
            is(0, loom.ravel(9));
        });
        sentence(15, ROWS_OUT_OF_RANGE, () -> {
            CandleLoom loom = woven(12);
            loom.knot(11, 0);
            refuses(RANGE, () -> loom.ravel(0));
            refuses(RANGE, () -> loom.ravel(11));
            refuses(RANGE, () -> loom.ravel(-1));
            refuses(RANGE, () -> loom.ravel(LEAST));
            refuses(RANGE, () -> loom.ravel(GREATEST));
            CandleLoom empty = new CandleLoom();
            refuses(RANGE, () -> empty.ravel(0));
            refuses(RANGE, () -> empty.ravel(11));
            is(12, loom.rowCount());
        });
    }

    private static void ravelDenials() {
        sentence(15, "Throws `UnsupportedOperationException` if denied: 4, 3", () -> {
            CandleLoom empty = new CandleLoom();
            denies(empty, 4, 0, () -> empty.ravel(1));
            CandleLoom loom = woven(4);
            loom.knot(1, 15);
            loom.knot(2, 0);
            denies(loom, 4, 4, () -> loom.ravel(5));
            denies(loom, 4, 4, () -> loom.ravel(10));
            denies(loom, 3, 2, () -> loom.ravel(4));
            denies(loom, 3, 2, () -> loom.ravel(3));
            denies(loom, 3, 2, () -> loom.ravel(2));
            is(4, loom.rowCount());
            is(3, loom.ravel(1));
            denies(loom, 3, 2, () -> loom.ravel(1));
            loom.untie(2, 0);
            is(2, loom.ravel(1));
            denies(loom, 3, 1, () -> loom.ravel(2));
            loom.untie(1, 15);
            is(0, loom.ravel(2));
        });
    }

    private static void repeatLast() {
        sentence(16, "Appends copies of the last rows, without their knots and without using wax.", () -> {
            CandleLoom loom = Check.cloth(2, 4, 8);
            loom.knot(1, 2);
            loom.knot(2, 3);
            int wax = loom.waxUsed();
            loom.repeatLast(2, 3);
            int[] due = {258, 260, 264, 260, 264, 260, 264, 260, 264};
            for (int row = 0; row < 9; row++) {
                is(due[row], loom.rowMask(row));
                is(3, loom.rowColour(row));
                is(row == 1, loom.isKnotted(row, 2));
                is(row == 2, loom.isKnotted(row, 3));
            }
            is(2, loom.knotCount());
            is(wax, loom.waxUsed());
            is(96, loom.wax(7));
            is(3, loom.wovenTotal());
            CandleLoom coloured = Check.lit(1, 2, 1);
            coloured.weave(1);
            coloured.light(coloured.addWick(7, 2, 1));
            coloured.weave(1);
            coloured.repeatLast(2, 1);
            is(1, coloured.rowColour(2));
            is(7, coloured.rowColour(3));
            CandleLoom hot = Check.lit(5, 32769, 4);
            hot.weave(4);
            is(13, hot.repeatLast(1, 9));
            is(4, hot.heat('l'));
            is(0, hot.burn('r'));
            is(5, hot.rowColour(12));
            is(32769, hot.rowMask(12));
        });
        sentence(16, ROWS_AFTERWARDS, () -> {
            CandleLoom loom = woven(2);
            is(3, loom.repeatLast(1, 1));
            is(12, loom.repeatLast(3, 3));
            is(40, loom.repeatLast(7, 4));
            is(40, loom.rowCount());
        });
    }

    private static void repeatLastBounds() {
        sentence(16, "`rows`: the number of rows that are copied together, 1 to 20", () -> {
            for (int rows = 1; rows <= 20; rows++) {
                CandleLoom loom = woven(20);
                is(20 + rows, loom.repeatLast(rows, 1));
            }
        });
        sentence(16, "`times`: how often they are appended, 1 to 9", () -> {
            for (int times = 1; times <= 9; times++) {
                CandleLoom loom = woven(4);
                is(4 + 4 * times, loom.repeatLast(4, times));
            }
        });
        sentence(16, "Throws `IllegalArgumentException` if a number is out of range", () -> {
            CandleLoom loom = woven(21);
            for (int rows : new int[] {LEAST, -1, 0, 21, 22, GREATEST}) {
                refuses(RANGE, () -> loom.repeatLast(rows, 1));
                refuses(RANGE, () -> loom.repeatLast(rows, 10));
            }
            for (int times : new int[] {LEAST, -1, 0, 10, 11, GREATEST}) {
                refuses(RANGE, () -> loom.repeatLast(1, times));
                refuses(RANGE, () -> loom.repeatLast(20, times));
            }
            CandleLoom empty = new CandleLoom();
            refuses(RANGE, () -> empty.repeatLast(21, 1));
            refuses(RANGE, () -> empty.repeatLast(1, 10));
            is(21, loom.rowCount());
        });
        sentence(16, "Throws `UnsupportedOperationException` if denied: 4, 1 (40 rows)", () -> {
            CandleLoom empty = new CandleLoom();
            denies(empty, 4, 0, () -> empty.repeatLast(1, 1));
            CandleLoom loom = woven(13);
            denies(loom, 4, 13, () -> loom.repeatLast(14, 1));
            denies(loom, 4, 13, () -> loom.repeatLast(20, 9));
            denies(loom, 1, 40, () -> loom.repeatLast(13, 3));
            denies(loom, 1, 40, () -> loom.repeatLast(4, 7));
            denies(loom, 1, 40, () -> loom.repeatLast(13, 9));
            is(13, loom.rowCount());
            is(40, loom.repeatLast(3, 9));
            denies(loom, 1, 40, () -> loom.repeatLast(1, 1));
            is(40, loom.rowCount());
        });
    }

    private static void knot() {
        sentence(17, "Knots a cell.", () -> {
            CandleLoom loom = woven(3);
            loom.knot(1, 7);
            for (int row = 0; row < 3; row++) {
                for (int column = 0; column < 16; column++) {
                    is(row == 1 && column == 7, loom.isKnotted(row, column));
                }
            }
            is(6, loom.rowMask(1));
        });
        sentence(17, ROW, () -> {
            CandleLoom loom = woven(40);
            loom.knot(0, 2);
            loom.knot(39, 3);
            yes(loom.isKnotted(0, 2));
            yes(loom.isKnotted(39, 3));
        });
        sentence(17, COLUMN, () -> {
            CandleLoom loom = woven(2);
            for (int column = 0; column < 16; column++) {
                no(loom.isKnotted(1, column));
                is(column + 1, loom.knot(1, column));
                yes(loom.isKnotted(1, column));
                no(loom.isKnotted(0, column));
            }
        });
        sentence(17, KNOTS_AFTERWARDS, () -> {
            CandleLoom loom = woven(3);
            is(1, loom.knot(2, 15));
            is(2, loom.knot(0, 0));
            is(3, loom.knot(2, 14));
            loom.untie(0, 0);
            is(3, loom.knot(1, 1));
        });
        sentence(17, NO_SUCH_CELL, () -> refusesCellsThatAreNot((loom, row, column) -> loom.knot(row, column)));
        sentence(17, "Throws `UnsupportedOperationException` if denied: 5", () -> {
            CandleLoom loom = woven(2);
            loom.knot(0, 0);
            loom.knot(1, 15);
            denies(loom, 5, 1, () -> loom.knot(0, 0));
            denies(loom, 5, 1, () -> loom.knot(1, 15));
            is(2, loom.knotCount());
            yes(loom.isKnotted(0, 0));
        });
    }

    private static void untie() {
        sentence(18, "Unties the knot of a cell.", () -> {
            CandleLoom loom = woven(2);
            loom.knot(0, 4);
            loom.knot(0, 5);
            loom.knot(1, 4);
            loom.untie(0, 4);
            no(loom.isKnotted(0, 4));
            yes(loom.isKnotted(0, 5));
            yes(loom.isKnotted(1, 4));
            loom.knot(0, 4);
            yes(loom.isKnotted(0, 4));
        });
        sentence(18, ROW, () -> {
            CandleLoom loom = woven(40);
            loom.knot(0, 3);
            loom.knot(39, 3);
            is(1, loom.untie(39, 3));
            is(0, loom.untie(0, 3));
        });
        sentence(18, COLUMN, () -> {
            CandleLoom loom = woven(1);
            for (int column = 0; column < 16; column++) {
                loom.knot(0, column);
            }
            for (int column = 0; column < 16; column++) {
                is(15 - column, loom.untie(0, column));
                no(loom.isKnotted(0, column));
            }
        });
        sentence(18, KNOTS_AFTERWARDS, () -> {
            CandleLoom loom = woven(3);
            loom.knot(0, 0);
            loom.knot(1, 1);
            loom.knot(2, 2);
            is(2, loom.untie(1, 1));
            is(1, loom.untie(2, 2));
            is(0, loom.untie(0, 0));
        });
        sentence(18, NO_SUCH_CELL, () -> refusesCellsThatAreNot((loom, row, column) -> loom.untie(row, column)));
        sentence(18, "Throws `UnsupportedOperationException` if denied: 5", () -> {
            CandleLoom loom = woven(2);
            loom.knot(1, 1);
            denies(loom, 5, 0, () -> loom.untie(1, 0));
            denies(loom, 5, 0, () -> loom.untie(0, 1));
            loom.untie(1, 1);
            denies(loom, 5, 0, () -> loom.untie(1, 1));
            is(0, loom.knotCount());
        });
    }

    /** A loom with burn and heat at both edges: a burn of 2 and heat 3 on the left, 1 and 2 on the right. */
    private static CandleLoom hot() {
        CandleLoom loom = burnt(2, 1);
        loom.light(loom.addWick(0, 3, 99));
        loom.weave(1);
        loom.snuff(2);
        loom.light(loom.addWick(0, 32779, 99));
        loom.weave(2);
        return loom;
    }

    private static void mend() {
        sentence(19, "Mends an edge: its burn decreases by 1, and its heat becomes 0.", () -> {
            CandleLoom left = hot();
            is(3, left.heat('l'));
            left.mend('l');
            is(1, left.burn('l'));
            is(0, left.heat('l'));
            is(1, left.burn('r'));
            is(2, left.heat('r'));
            is(10, left.nextMask());
            CandleLoom right = hot();
            right.mend('r');
            is(0, right.burn('r'));
            is(0, right.heat('r'));
            is(2, right.burn('l'));
            is(3, right.heat('l'));
            is(32776, right.nextMask());
        });
        sentence(19, "Rows that are woven do not change.", () -> {
            CandleLoom loom = Check.lit(4, 65535, 99);
            loom.weave(6);
            loom.mend('l');
            loom.mend('r');
            is(65535, loom.rowMask(4));
            is(32766, loom.rowMask(5));
            is(4, loom.rowColour(5));
            is(6, loom.rowCount());
            loom.weave(1);
            is(65535, loom.rowMask(6));
        });
        sentence(19, SIDE, () -> {
            CandleLoom loom = burnt(3, 2);
            is(2, loom.mend('l'));
            is(1, loom.mend('r'));
            is(2, loom.burn('l'));
            is(1, loom.burn('r'));
        });
    }

    private static void mendBounds() {
        sentence(19, "Returns the burn of the edge afterwards.", () -> {
            CandleLoom loom = burnt(4, 4);
            for (int due = 3; due >= 0; due--) {
                is(due, loom.mend('l'));
            }
            for (int due = 3; due >= 0; due--) {
                is(due, loom.mend('r'));
            }
        });
        sentence(19, NO_SUCH_SIDE, () -> refusesOtherSides((loom, side) -> loom.mend(side)));
        sentence(19, "Throws `UnsupportedOperationException` if denied: 5 (the burn is 0)", () -> {
            CandleLoom fresh = new CandleLoom();
            denies(fresh, 5, 0, () -> fresh.mend('l'));
            denies(fresh, 5, 0, () -> fresh.mend('r'));
            CandleLoom loom = burnt(0, 1);
            denies(loom, 5, 0, () -> loom.mend('l'));
            is(0, loom.mend('r'));
            denies(loom, 5, 0, () -> loom.mend('r'));
            CandleLoom warm = Check.lit(0, 32769, 9);
            warm.weave(4);
            denies(warm, 5, 0, () -> warm.mend('l'));
            is(4, warm.heat('l'));
            denies(warm, 5, 0, () -> warm.mend('r'));
            is(4, warm.heat('r'));
        });
    }

    private static void rowCount() {
        sentence(20, "Returns the number of rows.", () -> {
            is(0, new CandleLoom().rowCount());
            CandleLoom loom = woven(40);
            is(40, loom.rowCount());
            loom.ravel(9);
            is(31, loom.rowCount());
            loom.repeatLast(2, 2);
            is(35, loom.rowCount());
            loom.undo();
            is(31, loom.rowCount());
        });
    }

    private static void rowMask() {
        sentence(21, "Returns the mask of a row.", () -> {
            CandleLoom loom = Check.cloth(2, 254, 0);
            is(258, loom.rowMask(0));
            is(510, loom.rowMask(1));
            is(256, loom.rowMask(2));
            loom.knot(1, 0);
            is(510, loom.rowMask(1));
        });
        sentence(21, ROW, () -> {
            CandleLoom loom = woven(38);
            loom.light(loom.addWick(0, 6, 99));
            loom.weave(1);
            loom.snuff(1);
            loom.weave(1);
            is(6, loom.rowMask(0));
            is(0, loom.rowMask(38));
            is(6, loom.rowMask(39));
        });
        sentence(21, "Returns the mask.", () -> {
            CandleLoom all = Check.lit(0, 65535, 1);
            all.weave(1);
            is(65535, all.rowMask(0));
            CandleLoom none = Check.lit(0, 65535, 1, 0, 65535, 1);
            none.weave(1);
            is(0, none.rowMask(0));
        });
        sentence(21, NO_SUCH_ROW, () -> refusesRowsThatAreNot((loom, row) -> loom.rowMask(row)));
    }

    private static void rowColour() {
        sentence(22, "Returns the colour of a row.", () -> {
            CandleLoom loom = Check.lit(7, 2, 1, 0, 2, 1);
            loom.addWick(4, 2, 1);
            loom.weave(1);
            loom.light(2);
            loom.weave(1);
            is(7, loom.rowColour(0));
            is(4, loom.rowColour(1));
        });
        sentence(22, ROW, () -> {
            CandleLoom loom = woven(39);
            loom.light(loom.addWick(5, 6, 99));
            loom.weave(1);
            is(3, loom.rowColour(0));
            is(3, loom.rowColour(38));
            is(5, loom.rowColour(39));
        });
        sentence(22, "Returns the colour.", () -> {
            for (int colour = 0; colour <= 7; colour++) {
                CandleLoom loom = Check.lit(colour, 6, 1);
                loom.weave(1);
                is(colour, loom.rowColour(0));
            }
        });
        sentence(22, NO_SUCH_ROW, () -> refusesRowsThatAreNot((loom, row) -> loom.rowColour(row)));
    }

    private static void isRaised() {
        sentence(23, "Returns whether a column is raised in a row.", () -> {
            CandleLoom loom = Check.cloth(2, 4);
            yes(loom.isRaised(0, 1));
            no(loom.isRaised(0, 2));
            no(loom.isRaised(1, 1));
            yes(loom.isRaised(1, 2));
        });
        sentence(23, ROW, () -> {
            CandleLoom loom = woven(39);
            loom.light(loom.addWick(5, 2, 99));
            loom.weave(1);
            yes(loom.isRaised(0, 1));
            yes(loom.isRaised(38, 1));
            no(loom.isRaised(39, 1));
        });
        sentence(23, COLUMN, () -> {
            CandleLoom loom = Check.lit(0, 32769, 1);
            loom.weave(1);
            for (int column = 0; column < 16; column++) {
                is(column == 0 || column == 15, loom.isRaised(0, column));
            }
        });
        sentence(23, "Returns whether it is raised.", () -> {
            CandleLoom loom = Check.lit(0, 65535, 9);
            loom.weave(6);
            loom.knot(5, 0);
            yes(loom.isRaised(4, 0));
            no(loom.isRaised(5, 0));
            yes(loom.isRaised(5, 1));
            yes(loom.isRaised(5, 14));
            no(loom.isRaised(5, 15));
        });
        sentence(23, NO_SUCH_CELL, () -> refusesCellsThatAreNot((loom, row, column) -> loom.isRaised(row, column)));
    }

    private static void isKnotted() {
        sentence(24, "Returns whether a cell is knotted.", () -> {
            CandleLoom loom = woven(2);
            loom.knot(1, 1);
            yes(loom.isKnotted(1, 1));
            no(loom.isKnotted(0, 1));
            no(loom.isKnotted(1, 0));
            no(loom.isKnotted(1, 2));
        });
        sentence(24, ROW, () -> {
            CandleLoom loom = woven(40);
            loom.knot(39, 5);
            no(loom.isKnotted(0, 5));
            yes(loom.isKnotted(39, 5));
            loom.knot(0, 5);
            yes(loom.isKnotted(0, 5));
        });
        sentence(24, COLUMN, () -> {
            CandleLoom loom = woven(1);
            loom.knot(0, 0);
            loom.knot(0, 15);
            for (int column = 0; column < 16; column++) {
                is(column == 0 || column == 15, loom.isKnotted(0, column));
            }
        });
        sentence(24, "Returns whether it is knotted.", () -> {
            CandleLoom loom = woven(1);
            no(loom.isKnotted(0, 9));
            loom.knot(0, 9);
            yes(loom.isKnotted(0, 9));
            loom.untie(0, 9);
            no(loom.isKnotted(0, 9));
            loom.undo();
            yes(loom.isKnotted(0, 9));
        });
        sentence(24, NO_SUCH_CELL, () -> refusesCellsThatAreNot((loom, row, column) -> loom.isKnotted(row, column)));
    }

    private static void knotCount() {
        sentence(25, "Returns the number of knotted cells of the cloth.", () -> {
            CandleLoom loom = woven(40);
            is(0, loom.knotCount());
            loom.knot(0, 0);
            loom.knot(0, 15);
            loom.knot(39, 15);
            is(3, loom.knotCount());
            loom.untie(0, 15);
            is(2, loom.knotCount());
        });
        sentence(25, "Returns the number of cells.", () -> {
            is(0, new CandleLoom().knotCount());
            CandleLoom loom = woven(3);
            for (int row = 0; row < 3; row++) {
                for (int column = 0; column < 16; column++) {
                    loom.knot(row, column);
                }
            }
            is(48, loom.knotCount());
        });
    }

    private static void nextKnotRow() {
        sentence(26, "Returns the row of the knotted cell that comes first from a row on, row by row, and in a row by "
                + "column.", () -> {
            CandleLoom loom = woven(6);
            loom.knot(4, 0);
            loom.knot(2, 15);
            loom.knot(2, 9);
            int[] due = {2, 2, 2, 4, 4};
            for (int row = 0; row < 5; row++) {
                is(due[row], loom.nextKnotRow(row));
            }
        });
        sentence(26, FROM, () -> {
            CandleLoom loom = woven(40);
            loom.knot(0, 1);
            loom.knot(39, 1);
            is(0, loom.nextKnotRow(0));
            is(39, loom.nextKnotRow(1));
            is(39, loom.nextKnotRow(39));
        });
        sentence(26, "Returns the index of the row of the cell.", () -> {
            CandleLoom loom = woven(3);
            loom.knot(1, 12);
            is(1, loom.nextKnotRow(0));
            is(1, loom.nextKnotRow(1));
        });
        sentence(26, NO_SUCH_ROW, () -> refusesRowsThatAreNot((loom, row) -> loom.nextKnotRow(row)));
        sentence(26, NO_SUCH_KNOT, () -> noSuchKnot((loom, row) -> loom.nextKnotRow(row)));
    }

    private static void noSuchKnot(IndexCall call) {
        CandleLoom loom = woven(3);
        refuses(NONE, () -> call.on(loom, 0));
        refuses(NONE, () -> call.on(loom, 2));
        loom.knot(1, 15);
        call.on(loom, 1);
        refuses(NONE, () -> call.on(loom, 2));
        loom.untie(1, 15);
        refuses(NONE, () -> call.on(loom, 0));
        refuses(NONE, () -> call.on(loom, 1));
        CandleLoom full = woven(40);
        refuses(NONE, () -> call.on(full, 0));
        refuses(NONE, () -> call.on(full, 39));
    }

    private static void nextKnotColumn() {
        sentence(27, "Returns the column of the same cell as nextKnotRow.", () -> {
            CandleLoom loom = woven(6);
            loom.knot(4, 0);
            loom.knot(2, 15);
            loom.knot(2, 9);
            int[] due = {9, 9, 9, 0, 0};
            for (int row = 0; row < 5; row++) {
                is(due[row], loom.nextKnotColumn(row));
            }
            loom.untie(2, 9);
            is(15, loom.nextKnotColumn(2));
        });
        sentence(27, FROM, () -> {
            CandleLoom loom = woven(40);
            loom.knot(0, 1);
            loom.knot(39, 2);
            is(1, loom.nextKnotColumn(0));
            is(2, loom.nextKnotColumn(1));
            is(2, loom.nextKnotColumn(39));
        });
        sentence(27, "Returns the column of the cell.", () -> {
            for (int column = 0; column < 16; column++) {
                CandleLoom loom = woven(1);
                loom.knot(0, column);
                is(column, loom.nextKnotColumn(0));
            }
        });
        sentence(27, NO_SUCH_ROW, () -> refusesRowsThatAreNot((loom, row) -> loom.nextKnotColumn(row)));
        sentence(27, NO_SUCH_KNOT, () -> noSuchKnot((loom, row) -> loom.nextKnotColumn(row)));
    }

    private static void burn() {
        sentence(28, "Returns the burn of an edge.", () -> {
            CandleLoom loom = burnt(3, 1);
            is(3, loom.burn('l'));
            is(1, loom.burn('r'));
        });
        sentence(28, SIDE, () -> {
            CandleLoom left = Check.lit(0, 1, 5);
            left.weave(5);
            is(1, left.burn('l'));
            is(0, left.burn('r'));
            CandleLoom right = Check.lit(0, 32768, 5);
            right.weave(5);
            is(0, right.burn('l'));
            is(1, right.burn('r'));
        });
        sentence(28, "Returns the burn, 0 to 4.", () -> {
            CandleLoom loom = Check.lit(0, 32769, 99);
            for (int fives = 0; fives <= 8; fives++) {
                is(Math.min(fives, 4), loom.burn('l'));
                is(Math.min(fives, 4), loom.burn('r'));
                if (fives < 8) {
                    loom.weave(5);
                }
            }
        });
        sentence(28, NO_SUCH_SIDE, () -> refusesOtherSides((loom, side) -> loom.burn(side)));
    }

    private static void heat() {
        sentence(29, "Returns the heat of an edge.", () -> {
            CandleLoom loom = hot();
            is(3, loom.heat('l'));
            is(2, loom.heat('r'));
            loom.snuff(3);
            loom.light(2);
            loom.weave(1);
            is(4, loom.heat('l'));
            is(0, loom.heat('r'));
        });
        sentence(29, SIDE, () -> {
            CandleLoom left = Check.lit(0, 1, 5);
            left.weave(4);
            is(4, left.heat('l'));
            is(0, left.heat('r'));
            CandleLoom right = Check.lit(0, 32768, 5);
            right.weave(4);
            is(0, right.heat('l'));
            is(4, right.heat('r'));
        });
        sentence(29, "Returns the heat, 0 to 4.", () -> {
            CandleLoom loom = Check.lit(0, 32769, 99);
            for (int row = 1; row <= 40; row++) {
                loom.weave(1);
                is(row % 5, loom.heat('l'));
                is(row % 5, loom.heat('r'));
            }
        });
        sentence(29, NO_SUCH_SIDE, () -> refusesOtherSides((loom, side) -> loom.heat(side)));
    }
}
