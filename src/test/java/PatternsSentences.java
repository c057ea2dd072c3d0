/** Promises 30 to 40. */
final class PatternsSentences extends Sentences {
    private static final String NO_ROWS_NO_PERIOD = "Throws `NoSuchElementException` if the cloth has no rows";
    private static final String NO_ROWS_NO_SHARE = "Throws `ArithmeticException` if the cloth has no rows";

    static void all() {
        period();
        periodByBorders();
        occurrences();
        distinctRows();
        distance();
        longestFloat();
        isSymmetric();
        wovenTotal();
        waxUsed();
        meanRaised();
        knotShare();
    }

    private static void period() {
        sentence(30, "Returns the period of the cloth, found by trying one number after the other.", () -> {
            is(2, Check.cloth(2, 4, 2, 4, 2).period());
            is(3, Check.cloth(2, 2, 4, 2, 2, 4).period());
            is(4, Check.cloth(2, 4, 2, 2, 2, 4, 2).period());
            is(7, Check.cloth(2, 2, 4, 2, 2, 4, 8).period());
        });
        sentence(30, "Returns the period.", () -> {
            is(1, woven(1).period());
            is(1, woven(40).period());
            is(2, Check.cloth(2, 4).period());
            CandleLoom last = woven(39);
            last.light(last.addWick(0, 2, 1));
            last.weave(1);
            is(40, last.period());
            CandleLoom twice = Check.cloth(2, 4, 8);
            twice.repeatLast(3, 9);
            is(3, twice.period());
        });
        sentence(30, NO_ROWS_NO_PERIOD, () -> {
            CandleLoom loom = Check.lit(0, 2, 9);
            refuses(NONE, () -> loom.period());
            loom.weave(1);
            is(1, loom.period());
            loom.ravel(1);
            refuses(NONE, () -> loom.period());
        });
    }

    private static void periodByBorders() {
        sentence(31, "Returns the same number as period, computed as the number of rows minus the length of the "
                + "longest beginning of the cloth, shorter than the cloth, that is also its end.", () -> {
            is(2, Check.cloth(2, 4, 2, 4, 2).periodByBorders());
            is(4, Check.cloth(2, 4, 2, 2, 2, 4, 2).periodByBorders());
            is(7, Check.cloth(2, 2, 4, 2, 2, 4, 8).periodByBorders());
            int[] masks = {2, 4};
            // All cloths of up to six rows of two kinds.
            for (int kinds = 1; kinds < 128; kinds++) {
                int rows = 31 - Integer.numberOfLeadingZeros(kinds);
                int[] cloth = new int[rows];
                for (int row = 0; row < rows; row++) {
                    cloth[row] = masks[kinds >> row & 1];
                }
                if (rows > 0) {
                    CandleLoom loom = Check.cloth(cloth);
                    is(periodOf(cloth), loom.period());
                    is(periodOf(cloth), loom.periodByBorders());
                }
            }
        });
        sentence(31, "Returns the period.", () -> {
            is(1, woven(1).periodByBorders());
            is(1, woven(2).periodByBorders());
            is(1, woven(40).periodByBorders());
            is(2, Check.cloth(2, 4).periodByBorders());
            CandleLoom loom = Check.cloth(2, 4, 8);
            loom.repeatLast(3, 9);
            is(3, loom.periodByBorders());
            loom.weave(1);
            is(31, loom.periodByBorders());
        });
        sentence(31, NO_ROWS_NO_PERIOD, () -> {
            CandleLoom loom = Check.lit(0, 2, 9);
            refuses(NONE, () -> loom.periodByBorders());
            loom.weave(1);
            is(1, loom.periodByBorders());
            loom.ravel(1);
            refuses(NONE, () -> loom.periodByBorders());
        });
    }

    private static int periodOf(int[] cloth) {
        for (int period = 1; period < cloth.length; period++) {
            boolean repeats = true;
            for (int row = period; row < cloth.length; row++) {
                repeats &= cloth[row] == cloth[row - period];
            }
            if (repeats) {
                return period;
            }
        }
        return cloth.length;
    }

    private static void occurrences() {
        sentence(32, "Returns how often the last rows of the cloth occur in it, one after the other in the same "
                + "order; occurrences may overlap, and the end of the cloth counts as one.", () -> {
            CandleLoom loom = Check.cloth(2, 4, 2, 4, 2, 8, 4, 2);
            is(4, loom.occurrences(1));
            is(3, loom.occurrences(2));
            is(1, loom.occurrences(3));
            CandleLoom waves = Check.cloth(2, 4, 2, 4, 2);
            is(2, waves.occurrences(3));
            is(2, waves.occurrences(2));
            CandleLoom even = woven(40);
            for (int rows = 1; rows <= 40; rows++) {
                is(41 - rows, even.occurrences(rows));
            }
            is(1, Check.cloth(2, 4).occurrences(1));
        });
        sentence(32, "`rows`: the number of last rows, at least 1", () -> {
            CandleLoom loom = Check.cloth(2, 2, 4);
            is(1, loom.occurrences(1));
            is(1, loom.occurrences(2));
            is(1, loom.occurrences(3));
            refuses(RANGE, () -> loom.occurrences(0));
        });
        sentence(32, "Returns the number of occurrences.", () -> {
            CandleLoom loom = Check.lit(1, 2, 9);
            loom.weave(2);
            is(2, loom.occurrences(1));
            loom.light(loom.addWick(2, 2, 20));
            loom.light(loom.addWick(2, 2, 20));
            loom.weave(1);
            is(loom.rowMask(0), loom.rowMask(2));
            is(1, loom.occurrences(1));
            loom.knot(2, 1);
            loom.repeatLast(1, 1);
            is(2, loom.occurrences(1));
        });
        sentence(32, "Throws `IllegalArgumentException` if rows is less than 1 or greater than the number of "
                + "rows", () -> {
            CandleLoom empty = new CandleLoom();
            refuses(RANGE, () -> empty.occurrences(0));
            refuses(RANGE, () -> empty.occurrences(1));
            for (int rows : new int[] {1, 5, 40}) {
                CandleLoom loom = woven(rows);
                refuses(RANGE, () -> loom.occurrences(0));
                refuses(RANGE, () -> loom.occurrences(-1));
                refuses(RANGE, () -> loom.occurrences(LEAST));
                is(1, loom.occurrences(rows));
                refuses(RANGE, () -> loom.occurrences(rows + 1));
                refuses(RANGE, () -> loom.occurrences(GREATEST));
            }
        });
    }

    private static void distinctRows() {
        sentence(33, "Returns the number of different rows.", () -> {
            is(0, new CandleLoom().distinctRows());
            is(1, woven(40).distinctRows());
            is(3, Check.cloth(2, 4, 8, 4, 2, 8, 8).distinctRows());
            is(2, Check.cloth(2, 4, 4).distinctRows());
        });
        sentence(33, "Returns the number of rows of which no two are equal.", () -> {
            CandleLoom loom = Check.lit(1, 2, 1, 1, 4, 2);
            loom.weave(1);
            loom.weave(1);
            loom.light(loom.addWick(2, 4, 1));
            loom.weave(1);
            is(3, loom.distinctRows());
            loom.knot(2, 2);
            loom.repeatLast(3, 9);
            is(3, loom.distinctRows());
            int[] masks = new int[40];
            for (int row = 0; row < 40; row++) {
                masks[row] = 2 * row;
            }
            is(40, Check.cloth(masks).distinctRows());
        });
    }

    private static void distance() {
        sentence(34, "Returns the number of columns that are raised in exactly one of two rows.", () -> {
            CandleLoom loom = Check.cloth(2 + 4, 4 + 8 + 16, 0);
            is(3, loom.distance(0, 1));
            is(3, loom.distance(1, 0));
            is(2, loom.distance(0, 2));
            loom.knot(0, 9);
            is(3, loom.distance(0, 1));
        });
        sentence(34, "`first`: the index of a row", () -> {
            CandleLoom loom = Check.cloth(2, 6, 14);
            is(2, loom.distance(0, 2));
            is(1, loom.distance(1, 2));
            is(0, loom.distance(2, 2));
        });
        sentence(34, "`second`: the index of a row, possibly the same", () -> {
            CandleLoom loom = Check.cloth(2, 6, 14);
            is(0, loom.distance(0, 0));
            is(1, loom.distance(0, 1));
            is(2, loom.distance(0, 2));
        });
        sentence(34, "Returns the number of columns.", () -> {
            CandleLoom loom = Check.lit(0, 65535, 3);
            loom.addWick(5, 65535, 1);
            loom.weave(1);
            loom.light(1);
            loom.weave(1);
            loom.weave(1);
            is(16, loom.distance(0, 1));
            is(0, loom.distance(0, 2));
        });
        sentence(34, "Throws `IndexOutOfBoundsException` if there is no such row, for either", () -> {
            refusesRowsThatAreNot((loom, row) -> loom.distance(row, 0));
            refusesRowsThatAreNot((loom, row) -> loom.distance(0, row));
            refusesRowsThatAreNot((loom, row) -> loom.distance(row, row));
        });
    }

    private static void longestFloat() {
        sentence(35, "Returns the length of the longest run of rows one after the other in which a column is "
                + "raised.", () -> {
            CandleLoom loom = Check.cloth(2, 2, 6, 4, 2, 6, 6, 6, 2, 4);
            is(5, loom.longestFloat(1));
            is(3, loom.longestFloat(2));
            is(3, Check.cloth(2, 2, 2, 4, 2).longestFloat(1));
            is(2, Check.cloth(4, 2, 4, 2, 2).longestFloat(1));
            is(1, Check.cloth(4, 2, 4).longestFloat(1));
        });
        sentence(35, "`column`: the column, 0 to 15", () -> {
            CandleLoom loom = Check.lit(0, 65535, 99);
            loom.weave(10);
            // The columns burn one by one, from both sides.
            int[] due = {5, 10, 10, 10, 10, 10, 10, 10, 10, 10, 10, 10, 10, 10, 10, 5};
            for (int column = 0; column < 16; column++) {
                is(due[column], loom.longestFloat(column));
            }
        });
        sentence(35, "Returns the number of rows, 0 if it is never raised.", () -> {
            is(0, new CandleLoom().longestFloat(0));
            is(0, new CandleLoom().longestFloat(15));
            is(0, woven(40).longestFloat(0));
            is(40, woven(40).longestFloat(1));
            is(1, woven(1).longestFloat(2));
        });
        sentence(35, "Throws `IndexOutOfBoundsException` if there is no such column", () -> {
            for (CandleLoom loom : new CandleLoom[] {new CandleLoom(), woven(40)}) {
                refuses(INDEX, () -> loom.longestFloat(-1));
                refuses(INDEX, () -> loom.longestFloat(16));
                refuses(INDEX, () -> loom.longestFloat(LEAST));
                refuses(INDEX, () -> loom.longestFloat(GREATEST));
            }
        });
    }

    private static void isSymmetric() {
        sentence(36, "Returns whether the cloth is the same when the order of its rows is reversed.", () -> {
            yes(Check.cloth(2, 4, 2).isSymmetric());
            yes(Check.cloth(2, 4, 8, 4, 2).isSymmetric());
            yes(Check.cloth(2, 4, 4, 2).isSymmetric());
            no(Check.cloth(2, 4).isSymmetric());
            no(Check.cloth(2, 4, 8, 2).isSymmetric());
            no(Check.cloth(2, 4, 8, 2, 2).isSymmetric());
            no(Check.cloth(2, 2, 4).isSymmetric());
            CandleLoom knotted = Check.cloth(2, 4, 2);
            knotted.knot(0, 0);
            yes(knotted.isSymmetric());
            CandleLoom coloured = Check.lit(1, 2, 1);
            coloured.weave(1);
            coloured.light(coloured.addWick(2, 2, 1));
            coloured.weave(1);
            no(coloured.isSymmetric());
        });
        sentence(36, "Returns whether it is the same; true for an empty cloth.", () -> {
            yes(new CandleLoom().isSymmetric());
            yes(woven(1).isSymmetric());
            yes(woven(40).isSymmetric());
            CandleLoom loom = Check.cloth(2, 4);
            loom.ravel(2);
            yes(loom.isSymmetric());
        });
    }

    private static void wovenTotal() {
        sentence(37, "Returns the number of rows woven so far, without those appended by repeatLast.", () -> {
            CandleLoom loom = Check.lit(0, 2, 12);
            loom.weave(10);
            loom.repeatLast(5, 2);
            is(10, loom.wovenTotal());
            loom.ravel(10);
            is(10, loom.wovenTotal());
            loom.weave(10);
            is(12, loom.wovenTotal());
        });
        sentence(37, "Returns the number of rows.", () -> {
            is(0, new CandleLoom().wovenTotal());
            CandleLoom loom = Check.lit(0, 2, 99);
            for (int tens = 1; tens <= 9; tens++) {
                loom.weave(10);
                loom.ravel(10);
                is(10 * tens, loom.wovenTotal());
            }
            is(0, loom.rowCount());
        });
    }

    private static void waxUsed() {
        sentence(38, "Returns the wax used so far.", () -> {
            CandleLoom loom = Check.lit(0, 2, 3, 0, 4, 5);
            loom.addWick(0, 8, 9);
            loom.weave(2);
            is(4, loom.waxUsed());
            loom.weave(10);
            is(8, loom.waxUsed());
            loom.repeatLast(5, 1);
            loom.ravel(10);
            loom.addWax(0, 50);
            is(8, loom.waxUsed());
        });
        sentence(38, "Returns the wax.", () -> {
            is(0, new CandleLoom().waxUsed());
            CandleLoom loom = new CandleLoom();
            for (int i = 0; i < 8; i++) {
                loom.light(loom.addWick(0, 2, 99));
            }
            is(0, loom.waxUsed());
            loom.weave(10);
            is(80, loom.waxUsed());
            loom.undo();
            is(0, loom.waxUsed());
        });
    }

    private static void meanRaised() {
        sentence(39, "Returns the mean number of raised columns of the rows: the sum converted to double, divided by "
                + "the number of rows converted to double.", () -> {
            is(2.0 / 3.0, meanOf(2 + 4, 0, 0));
            is(5.0 / 3.0, meanOf(2 + 4, 2 + 4 + 8, 0));
            is(4.0, meanOf(2 + 4 + 8 + 16));
            is(0.5, meanOf(0, 2));
            is(10.0 / 7.0, meanOf(2, 2, 6, 6, 6, 2, 2));
        });
        sentence(39, "Returns the mean.", () -> {
            is(2.0, woven(40).meanRaised());
            CandleLoom all = Check.lit(0, 65535, 9);
            all.weave(1);
            is(16.0, all.meanRaised());
            CandleLoom none = Check.lit(0, 2, 9, 0, 2, 9);
            none.weave(3);
            is(0.0, none.meanRaised());
        });
        sentence(39, NO_ROWS_NO_SHARE, () -> {
            CandleLoom loom = Check.lit(0, 2, 9);
            refuses(NO_ROWS, () -> loom.meanRaised());
            loom.weave(1);
            is(1.0, loom.meanRaised());
            loom.ravel(1);
            refuses(NO_ROWS, () -> loom.meanRaised());
        });
    }

    /** The mean of a cloth whose rows have these masks, of columns 1 to 4. */
    private static double meanOf(int... masks) {
        CandleLoom loom = new CandleLoom();
        for (int bit = 1; bit <= 4; bit++) {
            loom.addWick(0, 1 << bit, 99);
        }
        // Two wicks of the same mask weave a row when nothing shall be raised.
        loom.light(loom.addWick(0, 1, 99));
        loom.light(loom.addWick(0, 1, 99));
        for (int mask : masks) {
            for (int bit = 1; bit <= 4; bit++) {
                boolean wanted = (mask >> bit & 1) == 1;
                if (wanted && !loom.isLit(bit - 1)) {
                    loom.light(bit - 1);
                } else if (!wanted && loom.isLit(bit - 1)) {
                    loom.snuff(bit - 1);
                }
            }
            loom.weave(1);
        }
        return loom.meanRaised();
    }

    private static void knotShare() {
        sentence(40, "Returns the share of knotted cells among all cells of the cloth, both numbers converted to "
                + "float.", () -> {
            CandleLoom loom = woven(3);
            loom.knot(0, 0);
            is(1f / 48f, loom.knotShare());
            loom.knot(2, 15);
            is(2f / 48f, loom.knotShare());
            loom.knot(1, 7);
            loom.knot(1, 8);
            loom.knot(1, 9);
            is(5f / 48f, loom.knotShare());
            loom.weave(4);
            is(5f / 112f, loom.knotShare());
            loom.untie(1, 8);
            is(4f / 112f, loom.knotShare());
        });
        sentence(40, "Returns the share.", () -> {
            is(0f, woven(40).knotShare());
            CandleLoom loom = woven(1);
            for (int column = 0; column < 16; column++) {
                loom.knot(0, column);
            }
            is(1f, loom.knotShare());
            loom.weave(3);
            is(0.25f, loom.knotShare());
        });
        sentence(40, NO_ROWS_NO_SHARE, () -> {
            CandleLoom loom = Check.lit(0, 2, 9);
            refuses(NO_ROWS, () -> loom.knotShare());
            loom.weave(1);
            is(0f, loom.knotShare());
            loom.ravel(1);
            refuses(NO_ROWS, () -> loom.knotShare());
        });
    }
}
