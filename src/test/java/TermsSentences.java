/** What the document says before its promises of the cloth, wicks, weaving, periods and denials. */
final class TermsSentences extends Sentences {
    static void all() {
        introduction();
        cloth();
        wicks();
        patternsOfRows();
        waxOfRows();
        edgesOfRows();
        periods();
        denialsInGeneral();
        denialsByNumber();
        causes();
    }

    private static void introduction() {
        sentence(TERMS, "A loom that weaves a cloth row by row: wicks raise columns while they are lit, edges burn, "
                + "knots hold rows, and patterns repeat.", () -> {
            CandleLoom loom = Check.lit(3, 32769, 6);
            is(6, loom.weave(10));
            is(32769, loom.rowMask(4));
            is(0, loom.rowMask(5));
            is(0, loom.nextMask());
            loom.knot(5, 1);
            denies(loom, 3, 5, () -> loom.ravel(1));
            is(12, loom.repeatLast(6, 1));
        });
        sentence(TERMS, "An object is used for at most 512 calls after it has been made; what later calls answer "
                + "is free.", () -> {
            CandleLoom loom = new CandleLoom();
            loom.addWick(3, 6, 99);
            loom.light(0);
            for (int i = 0; i < 254; i++) {
                is(1, loom.weave(1));
                is(2, loom.undo());
            }
            is(10, loom.weave(10));
            is(6, loom.rowMask(9));
        });
        sentence(TERMS, "The class finds the period of the cloth in two ways, counts occurrences of its last rows, "
                + "and predicts how long the wicks last.", () -> {
            CandleLoom loom = Check.cloth(2, 4, 2, 4, 2);
            is(2, loom.period());
            is(2, loom.periodByBorders());
            is(2, loom.occurrences(3));
            is(96, loom.rowsUntilDark());
            is(96, loom.rowsUntilDarkByWax());
        });
    }

    private static void cloth() {
        sentence(TERMS, "The cloth has 16 columns, numbered from 0, and at most 40 rows, indexed from 0 in the "
                + "order in which they were woven.", () -> {
            CandleLoom loom = Check.lit(0, 65535, 99);
            loom.weave(1);
            for (int column = 0; column < 16; column++) {
                yes(loom.isRaised(0, column));
            }
            refuses(INDEX, () -> loom.isRaised(0, -1));
            refuses(INDEX, () -> loom.isRaised(0, 16));
            CandleLoom three = Check.cloth(2, 4, 8);
            is(258, three.rowMask(0));
            is(260, three.rowMask(1));
            is(264, three.rowMask(2));
            CandleLoom full = woven(40);
            is(40, full.rowCount());
            is(6, full.rowMask(39));
            refuses(INDEX, () -> full.rowMask(40));
            denies(full, 1, 40, () -> full.weave(1));
            denies(full, 1, 40, () -> full.repeatLast(1, 1));
        });
        sentence(TERMS, "In a row, each column is raised or not; the mask of a row is the sum of 2 to the power of "
                + "c over all raised columns c.", () -> {
            for (int column = 0; column < 16; column++) {
                CandleLoom loom = Check.lit(0, 1 << column, 1);
                loom.weave(1);
                is(1 << column, loom.rowMask(0));
                for (int other = 0; other < 16; other++) {
                    is(other == column, loom.isRaised(0, other));
                }
            }
            CandleLoom several = Check.lit(0, 1 + 4 + 2048 + 32768, 1);
            several.weave(1);
            is(34821, several.rowMask(0));
        });
        sentence(TERMS, "A row has a colour from 0 to 7.", () -> {
            for (int colour = 0; colour <= 7; colour++) {
                CandleLoom loom = Check.lit(colour, 6, 1);
                loom.weave(1);
                is(colour, loom.rowColour(0));
            }
        });
        sentence(TERMS, "Two rows are equal if their masks and colours are equal.", () -> {
            is(1, distinctOfTwo(3, 6, 3, 6));
            is(2, distinctOfTwo(3, 6, 4, 6));
            is(2, distinctOfTwo(3, 6, 3, 2));
            is(2, distinctOfTwo(3, 6, 4, 2));
            CandleLoom knotted = woven(2);
            knotted.knot(0, 1);
            is(1, knotted.distinctRows());
            is(1, knotted.period());
            yes(knotted.isSymmetric());
        });
        sentence(TERMS, "A cell of a row and a column can be knotted; initially it is not.", () -> {
            CandleLoom loom = woven(1);
            loom.saveSnapshot();
            for (int column = 0; column < 16; column++) {
                no(loom.isKnotted(0, column));
                loom.knot(0, column);
                yes(loom.isKnotted(0, column));
            }
            loom.repeatLast(1, 1);
            is(16, loom.knotCount());
            no(loom.isKnotted(1, 15));
            loom.knot(1, 15);
            loom.restoreSnapshot();
            loom.weave(1);
            no(loom.isKnotted(1, 15));
            is(0, loom.knotCount());
        });
    }

    /** How many of two rows of these colours and masks are different. */
    private static int distinctOfTwo(int colour, int mask, int otherColour, int otherMask) {
        CandleLoom loom = Check.lit(colour, mask, 1);
        loom.weave(1);
        loom.light(loom.addWick(otherColour, otherMask, 1));
        loom.weave(1);
        return loom.distinctRows();
    }

    private static void wicks() {
        sentence(TERMS, "At most 8 wicks exist, indexed from 0 in the order in which they were added.", () -> {
            CandleLoom loom = new CandleLoom();
            for (int i = 0; i < 8; i++) {
                is(i, loom.addWick(7 - i, 2, 90 + i));
            }
            for (int i = 0; i < 8; i++) {
                is(90 + i, loom.wax(i));
            }
            denies(loom, 1, 8, () -> loom.addWick(0, 2, 0));
            is(8, loom.wickCount());
            refuses(INDEX, () -> loom.wax(8));
        });
        sentence(TERMS, "A wick has a colour from 0 to 7, a mask from 1 to 65535, and wax from 0 to 99.", () -> {
            CandleLoom loom = new CandleLoom();
            is(0, loom.addWick(0, 1, 0));
            is(1, loom.addWick(7, 65535, 99));
            is(0, loom.wax(0));
            is(99, loom.wax(1));
            denies(loom, 1, 99, () -> loom.addWax(1, 1));
            refuses(RANGE, () -> loom.addWick(-1, 1, 0));
            refuses(RANGE, () -> loom.addWick(8, 1, 0));
            refuses(RANGE, () -> loom.addWick(0, 0, 0));
            refuses(RANGE, () -> loom.addWick(0, 65536, 0));
            refuses(RANGE, () -> loom.addWick(0, 1, -1));
            refuses(RANGE, () -> loom.addWick(0, 1, 100));
        });
        sentence(TERMS, "It is lit or not, initially not.", () -> {
            CandleLoom loom = new CandleLoom();
            loom.addWick(0, 1, 99);
            no(loom.isLit(0));
            loom.light(0);
            yes(loom.isLit(0));
            loom.undo();
            loom.undo();
            loom.addWick(0, 1, 99);
            no(loom.isLit(0));
        });
        sentence(TERMS, "A wick without wax is not lit.", () -> {
            CandleLoom loom = new CandleLoom();
            loom.addWick(0, 1, 0);
            no(loom.isLit(0));
            denies(loom, 6, 0, () -> loom.light(0));
            no(loom.isLit(0));
            loom.addWick(0, 1, 1);
            loom.light(1);
            loom.weave(1);
            no(loom.isLit(1));
            is(0, loom.litCount());
            loom.addWax(1, 1);
            no(loom.isLit(1));
            is(1, loom.light(1));
        });
    }

    private static void patternsOfRows() {
        sentence(TERMS, "The pattern of the row is the exclusive or of the masks of all lit wicks.", () -> {
            CandleLoom loom = Check.lit(0, 6, 9, 0, 12, 9, 0, 6, 9);
            loom.addWick(0, 4096, 9);
            loom.weave(1);
            is(12, loom.rowMask(0));
            loom.snuff(2);
            loom.weave(1);
            is(10, loom.rowMask(1));
            loom.snuff(1);
            loom.weave(1);
            is(6, loom.rowMask(2));
            loom.light(2);
            loom.weave(1);
            is(0, loom.rowMask(3));
        });
        sentence(TERMS, "The mask of the row is the pattern without the burnt columns, which are the left ones, as "
                + "many as the left burn says, and the right ones, as many as the right burn says.", () -> {
            for (int left = 0; left <= 4; left++) {
                for (int right = 0; right <= 4; right++) {
                    CandleLoom loom = burnt(left, right);
                    loom.light(loom.addWick(0, 65535, 9));
                    loom.weave(1);
                    int due = 0;
                    for (int column = left; column < 16 - right; column++) {
                        due += 1 << column;
                    }
                    is(due, loom.rowMask(0));
                }
            }
        });
        sentence(TERMS, "The colour of the row is that of the lit wick with the most wax; of several, of the one "
                + "with the smallest index.", () -> {
            CandleLoom loom = Check.lit(1, 2, 4, 2, 4, 5, 3, 8, 5, 4, 16, 1);
            loom.addWick(5, 32, 99);
            loom.weave(1);
            is(2, loom.rowColour(0));
            loom.addWax(2, 1);
            loom.weave(1);
            is(3, loom.rowColour(1));
            loom.snuff(1);
            loom.snuff(2);
            loom.weave(1);
            is(1, loom.rowColour(2));
            CandleLoom last = Check.lit(6, 2, 1);
            last.weave(1);
            is(6, last.rowColour(0));
            CandleLoom first = Check.lit(0, 2, 1, 7, 4, 1, 6, 8, 1);
            first.weave(1);
            is(0, first.rowColour(0));
        });
    }

    private static void waxOfRows() {
        sentence(TERMS, "Then the wax of each lit wick decreases by 1, and a wick whose wax is 0 then goes "
                + "out.", () -> {
            CandleLoom loom = Check.lit(1, 2, 1, 2, 4, 2, 3, 8, 3);
            loom.addWick(4, 16, 4);
            loom.weave(1);
            is(0, loom.wax(0));
            is(1, loom.wax(1));
            is(2, loom.wax(2));
            is(4, loom.wax(3));
            no(loom.isLit(0));
            yes(loom.isLit(1));
            is(14, loom.rowMask(0));
            loom.weave(1);
            is(0, loom.wax(0));
            is(12, loom.rowMask(1));
            no(loom.isLit(1));
            yes(loom.isLit(2));
        });
    }

    private static void edgesOfRows() {
        sentence(TERMS, "Then, if column 0 is in the pattern, the left heat increases by 1, and otherwise it becomes "
                + "0; if it is 5 then, it becomes 0 and the left burn increases by 1, but not above 4.",
                () -> edge('l', 1, 2));
        sentence(TERMS, "The same is done with column 15, the right heat and the right burn.",
                () -> edge('r', 32768, 16384));
        sentence(TERMS, "Heats and burns are initially 0; the left columns are those with the smallest "
                + "numbers.", () -> {
            CandleLoom fresh = new CandleLoom();
            is(0, fresh.heat('l'));
            is(0, fresh.heat('r'));
            is(0, fresh.burn('l'));
            is(0, fresh.burn('r'));
            CandleLoom left = Check.lit(0, 65535, 99, 0, 32768, 99);
            left.weave(6);
            is(1, left.burn('l'));
            is(0, left.burn('r'));
            is(32767, left.rowMask(0));
            is(32766, left.rowMask(5));
        });
    }

    /** An edge, its outermost column and the one beside it. */
    private static void edge(char side, int outer, int beside) {
        char other = side == 'l' ? 'r' : 'l';
        CandleLoom loom = Check.lit(0, outer, 99);
        loom.addWick(0, outer + beside, 99);
        for (int heat = 1; heat <= 4; heat++) {
            loom.weave(1);
            is(heat, loom.heat(side));
            is(0, loom.burn(side));
        }
        // Both masks have the outermost column, so that the pattern has not.
        loom.light(1);
        loom.weave(1);
        is(0, loom.heat(side));
        is(0, loom.burn(side));
        loom.snuff(1);
        loom.weave(4);
        is(4, loom.heat(side));
        loom.weave(1);
        is(0, loom.heat(side));
        is(1, loom.burn(side));
        is(outer, loom.rowMask(9));
        // A burnt column is in the pattern still, if not in the mask.
        loom.weave(1);
        is(0, loom.rowMask(10));
        is(1, loom.heat(side));
        loom.weave(4);
        is(2, loom.burn(side));
        is(0, loom.heat(side));
        loom.weave(5);
        is(3, loom.burn(side));
        loom.weave(5);
        is(4, loom.burn(side));
        loom.weave(4);
        is(4, loom.heat(side));
        loom.weave(1);
        is(4, loom.burn(side));
        is(0, loom.heat(side));
        is(0, loom.heat(other));
        is(0, loom.burn(other));
        loom.ravel(10);
        is(4, loom.burn(side));
        is(3, loom.mend(side));
        loom.weave(5);
        is(4, loom.burn(side));
    }

    private static void periods() {
        sentence(TERMS, "The period of a cloth with rows is the smallest number p of at least 1 such that each row "
                + "with an index i of at least p equals the row with the index i minus p.", () -> {
            is(1, Check.cloth(2).period());
            is(1, Check.cloth(2, 2).period());
            is(2, Check.cloth(2, 4).period());
            is(2, Check.cloth(2, 4, 2).period());
            is(2, Check.cloth(2, 4, 2, 4).period());
            is(3, Check.cloth(2, 4, 4).period());
            is(3, Check.cloth(2, 4, 4, 2).period());
            is(5, Check.cloth(2, 4, 2, 4, 8).period());
            is(4, Check.cloth(2, 2, 2, 4).period());
            is(1, woven(40).period());
        });
    }

    private static void denialsInGeneral() {
        sentence(TERMS, "Some calls are denied for a reason, which has a number and a detail.", () -> {
            CandleLoom loom = wicks(3);
            refuses(NONE, () -> loom.denial());
            refuses(NONE, () -> loom.denialDetail());
            refuses(DENIED, () -> loom.weave(1));
            is(2, loom.denial());
            is(3, loom.denialDetail());
        });
        sentence(TERMS, "Each method lists its possible denials in the order in which they are checked.", () -> {
            CandleLoom full = woven(40);
            full.snuff(0);
            denies(full, 2, 1, () -> full.weave(1));
            CandleLoom held = woven(3);
            held.knot(2, 0);
            denies(held, 4, 3, () -> held.ravel(4));
            denies(held, 4, 3, () -> held.repeatLast(20, 9));
            CandleLoom lacking = wicks(1);
            lacking.addWick(0, 2, 0);
            denies(lacking, 6, 1, () -> lacking.light(1));
        });
        sentence(TERMS, "The number, the detail and the cause of the latest denial are kept until the next "
                + "denial.", () -> {
            CandleLoom loom = wicks(2);
            Check.failsAt(loom, "light 0;light 1;light 1", 2, 5);
            loom.light(1);
            loom.weave(3);
            refuses(RANGE, () -> loom.weave(0));
            refuses(INDEX, () -> loom.light(2));
            refuses(RANGE, () -> Check.execute(loom, "light 0;"));
            is(1, Check.execute(loom, "light 0"));
            loom.undo();
            loom.saveSnapshot();
            loom.restoreSnapshot();
            is(7, loom.denial());
            is(2, loom.denialDetail());
            is(5, loom.denialCause());
            denies(loom, 4, 3, () -> loom.ravel(9));
            refuses(NONE, () -> loom.denialCause());
            Check.failsAt(loom, "weave 0", 0, 8);
        });
    }

    private static void denialsByNumber() {
        sentence(TERMS, "Denial 1: a limit is reached; the detail is the limit.", () -> {
            CandleLoom wicks = wicks(8);
            denies(wicks, 1, 8, () -> wicks.addWick(0, 1, 1));
            wicks.addWax(0, 50);
            denies(wicks, 1, 99, () -> wicks.addWax(0, 41));
            CandleLoom rows = woven(31);
            denies(rows, 1, 40, () -> rows.weave(10));
            denies(rows, 1, 40, () -> rows.repeatLast(5, 2));
        });
        sentence(TERMS, "Denial 2: no wick is lit; the detail is the number of wicks.", () -> {
            for (int count = 0; count <= 8; count++) {
                CandleLoom loom = wicks(count);
                denies(loom, 2, count, () -> loom.weave(1));
            }
        });
        sentence(TERMS, "Denial 3: a row with a knotted cell would be removed; the detail is the greatest index of "
                + "such a row.", () -> {
            CandleLoom loom = woven(6);
            loom.knot(0, 0);
            loom.knot(2, 15);
            loom.knot(4, 0);
            is(5, loom.ravel(1));
            denies(loom, 3, 4, () -> loom.ravel(1));
            denies(loom, 3, 4, () -> loom.ravel(5));
            loom.untie(4, 0);
            denies(loom, 3, 2, () -> loom.ravel(3));
            denies(loom, 3, 2, () -> loom.ravel(5));
            is(3, loom.ravel(2));
            loom.untie(2, 15);
            is(1, loom.ravel(2));
            denies(loom, 3, 0, () -> loom.ravel(1));
        });
        sentence(TERMS, "Denial 4: there are too few rows; the detail is the number of rows.", () -> {
            for (int rows = 0; rows < 10; rows++) {
                CandleLoom loom = woven(rows);
                int more = rows + 1;
                denies(loom, 4, rows, () -> loom.ravel(more));
                denies(loom, 4, rows, () -> loom.repeatLast(more, 1));
            }
            CandleLoom enough = woven(2);
            is(4, enough.repeatLast(2, 1));
            is(0, enough.ravel(4));
        });
        sentence(TERMS, "Denial 5: the value is the present one; the detail is this value, 1 for true and 0 for "
                + "false.", () -> {
            CandleLoom loom = Check.lit(0, 2, 9, 0, 2, 9);
            loom.snuff(0);
            denies(loom, 5, 1, () -> loom.light(1));
            denies(loom, 5, 0, () -> loom.snuff(0));
            loom.weave(3);
            loom.knot(2, 9);
            denies(loom, 5, 1, () -> loom.knot(2, 9));
            denies(loom, 5, 0, () -> loom.untie(2, 8));
            denies(loom, 5, 0, () -> loom.mend('l'));
        });
        sentence(TERMS, "Denial 6: the wick has no wax; the detail is the index of the wick.", () -> {
            CandleLoom loom = new CandleLoom();
            for (int i = 0; i < 8; i++) {
                int wick = loom.addWick(0, 2, 0);
                denies(loom, 6, i, () -> loom.light(wick));
            }
        });
        sentence(TERMS, "Denial 7: a command of a text failed; the detail is the index of the command, from "
                + "0.", () -> {
            String fine = "snuff 0;light 0;";
            for (int pairs = 0; pairs <= 2; pairs++) {
                CandleLoom loom = Check.lit(0, 2, 9);
                Check.failsAt(loom, fine.repeat(pairs) + "light 0", 2 * pairs, 5);
                Check.failsAt(loom, fine.repeat(pairs) + "snuff 0;snuff 0", 2 * pairs + 1, 5);
            }
            CandleLoom eighth = burnt(4, 3);
            Check.failsAt(eighth, "mend l;".repeat(4) + "mend r;".repeat(3) + "mend r", 7, 5);
            CandleLoom first = wicks(1);
            Check.failsAt(first, "snuff 0;weave 0;light 9", 0, 5);
        });
    }

    private static void causes() {
        sentence(TERMS, "Only denial 7 has a cause: the denial of the failed command with its detail, or denial 8 "
                + "with detail 0 if the command failed with an exception other than "
                + "UnsupportedOperationException.", () -> {
            CandleLoom loom = Check.lit(0, 1, 99, 0, 2, 99);
            refuses(NONE, () -> loom.denialCause());
            loom.addWick(0, 4, 0);
            loom.weave(2);
            loom.knot(1, 1);
            Check.failsAt(loom, "wax 0 2;wax 0 1", 1, 1);
            Check.failsAt(loom, "snuff 0;snuff 1;weave 1", 2, 2);
            Check.failsAt(loom, "ravel 2", 0, 3);
            Check.failsAt(loom, "ravel 3", 0, 4);
            Check.failsAt(loom, "light 1", 0, 5);
            Check.failsAt(loom, "light 2", 0, 6);
            Check.failsAt(loom, "light 3", 0, 8);
            Check.failsAt(loom, "weave 0", 0, 8);
            Check.failsAt(loom, "weave 1;repeat 1 0", 1, 8);
            denies(loom, 6, 2, () -> loom.light(2));
            refuses(NONE, () -> loom.denialCause());
        });
    }
}
