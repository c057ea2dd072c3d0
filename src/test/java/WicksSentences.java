/** Promises 1 to 13. */
final class WicksSentences extends Sentences {
    private static final String NO_SUCH_WICK = "Throws `IndexOutOfBoundsException` if there is no such wick";
    private static final String WICK = "`wick`: the index of the wick";

    static void all() {
        newObject();
        addWick();
        addWickBounds();
        light();
        snuff();
        addWax();
        counts();
        isLit();
        wax();
        wickByWax();
        nextMask();
        rowsUntilDark();
        rowsUntilDarkByWax();
    }

    private static void newObject() {
        sentence(1, "Creates a loom without wicks, with an empty cloth.", () -> {
            CandleLoom loom = new CandleLoom();
            is(0, loom.wickCount());
            is(0, loom.litCount());
            is(0, loom.rowCount());
            is(0, loom.knotCount());
            is(0, loom.distinctRows());
            is(0, loom.wovenTotal());
            is(0, loom.waxUsed());
            is(0, loom.undoCount());
            refuses(INDEX, () -> loom.wax(0));
            refuses(INDEX, () -> loom.rowMask(0));
            refuses(NONE, () -> loom.period());
            // Two looms share nothing.
            CandleLoom other = woven(3);
            is(3, other.rowCount());
            is(0, loom.rowCount());
            is(0, loom.wickCount());
        });
    }

    private static void addWick() {
        sentence(2, "Adds a wick.", () -> {
            CandleLoom loom = new CandleLoom();
            loom.addWick(5, 520, 31);
            is(1, loom.wickCount());
            is(31, loom.wax(0));
            no(loom.isLit(0));
            loom.addWick(2, 1056, 3);
            is(2, loom.wickCount());
            loom.writeWicks();
            is("-5=31,-2=3", Check.line(loom, 10));
            loom.light(0);
            is(520, loom.nextMask());
            loom.light(1);
            is(1576, loom.nextMask());
        });
        sentence(2, "Returns the index of the wick.", () -> {
            CandleLoom loom = new CandleLoom();
            for (int i = 0; i < 8; i++) {
                is(i, loom.addWick(0, 1, 1));
            }
            loom.undo();
            is(7, loom.addWick(0, 1, 1));
        });
        sentence(2, "Throws `IllegalArgumentException` if a number is out of range", () -> {
            CandleLoom loom = new CandleLoom();
            refuses(RANGE, () -> loom.addWick(-1, 0, -1));
            refuses(RANGE, () -> loom.addWick(8, 65536, 100));
            is(0, loom.wickCount());
            CandleLoom full = wicks(8);
            refuses(RANGE, () -> full.addWick(8, 1, 1));
            refuses(RANGE, () -> full.addWick(0, 0, 1));
            refuses(RANGE, () -> full.addWick(0, 1, 100));
        });
        sentence(2, "Throws `UnsupportedOperationException` if denied: 1 (8 wicks)", () -> {
            CandleLoom seven = wicks(7);
            is(7, seven.addWick(0, 1, 0));
            denies(seven, 1, 8, () -> seven.addWick(0, 1, 0));
            is(8, seven.wickCount());
            seven.undo();
            is(7, seven.addWick(7, 65535, 99));
        });
    }

    private static void addWickBounds() {
        sentence(2, "`colour`: the colour, 0 to 7", () -> {
            CandleLoom loom = new CandleLoom();
            refuses(RANGE, () -> loom.addWick(-1, 1, 1));
            refuses(RANGE, () -> loom.addWick(8, 1, 1));
            refuses(RANGE, () -> loom.addWick(LEAST, 1, 1));
            refuses(RANGE, () -> loom.addWick(GREATEST, 1, 1));
            for (int colour = 0; colour <= 7; colour++) {
                is(colour, loom.addWick(colour, 1, 1));
            }
        });
        sentence(2, "`mask`: the mask, 1 to 65535", () -> {
            CandleLoom loom = new CandleLoom();
            refuses(RANGE, () -> loom.addWick(0, 0, 1));
            refuses(RANGE, () -> loom.addWick(0, -1, 1));
            refuses(RANGE, () -> loom.addWick(0, 65536, 1));
            refuses(RANGE, () -> loom.addWick(0, 65537, 1));
            refuses(RANGE, () -> loom.addWick(0, LEAST, 1));
            refuses(RANGE, () -> loom.addWick(0, GREATEST, 1));
            loom.light(loom.addWick(0, 1, 1));
            is(1, loom.nextMask());
            loom.light(loom.addWick(0, 65535, 1));
            is(65534, loom.nextMask());
        });
        sentence(2, "`wax`: the wax, 0 to 99", () -> {
            CandleLoom loom = new CandleLoom();
            refuses(RANGE, () -> loom.addWick(0, 1, -1));
            refuses(RANGE, () -> loom.addWick(0, 1, 100));
            refuses(RANGE, () -> loom.addWick(0, 1, LEAST));
            refuses(RANGE, () -> loom.addWick(0, 1, GREATEST));
            loom.addWick(0, 1, 0);
            loom.addWick(0, 1, 99);
            is(0, loom.wax(0));
            is(99, loom.wax(1));
        });
    }

    private static void light() {
        sentence(3, "Lights a wick.", () -> {
            CandleLoom loom = wicks(3);
            loom.light(1);
            no(loom.isLit(0));
            yes(loom.isLit(1));
            no(loom.isLit(2));
            is(9, loom.wax(1));
            is(2, loom.nextMask());
        });
        sentence(3, WICK, () -> {
            CandleLoom loom = wicks(8);
            is(1, loom.light(0));
            is(2, loom.light(7));
            yes(loom.isLit(0));
            yes(loom.isLit(7));
        });
        sentence(3, "Returns the number of lit wicks afterwards.", () -> {
            CandleLoom loom = wicks(8);
            for (int i = 7; i >= 0; i--) {
                is(8 - i, loom.light(i));
            }
        });
        sentence(3, NO_SUCH_WICK, () -> refusesWicksThatAreNot((loom, wick) -> loom.light(wick)));
        sentence(3, "Throws `UnsupportedOperationException` if denied: 5, 6", () -> {
            CandleLoom loom = wicks(2);
            loom.addWick(0, 1, 0);
            loom.addWick(0, 1, 1);
            loom.light(1);
            denies(loom, 5, 1, () -> loom.light(1));
            denies(loom, 6, 2, () -> loom.light(2));
            yes(loom.isLit(1));
            no(loom.isLit(2));
            is(2, loom.light(3));
            loom.weave(1);
            denies(loom, 6, 3, () -> loom.light(3));
        });
    }

    private static void snuff() {
        sentence(4, "Snuffs a wick, which is not lit afterwards.", () -> {
            CandleLoom loom = Check.lit(0, 1, 9, 0, 2, 9, 0, 4, 9);
            loom.snuff(1);
            yes(loom.isLit(0));
            no(loom.isLit(1));
            yes(loom.isLit(2));
            is(9, loom.wax(1));
            is(5, loom.nextMask());
            loom.weave(1);
            is(9, loom.wax(1));
        });
        sentence(4, WICK, () -> {
            CandleLoom loom = wicks(8);
            loom.light(0);
            loom.light(7);
            is(1, loom.snuff(7));
            is(0, loom.snuff(0));
        });
        sentence(4, "Returns the number of lit wicks afterwards.", () -> {
            CandleLoom loom = wicks(8);
            for (int i = 0; i < 8; i++) {
                loom.light(i);
            }
            for (int i = 0; i < 8; i++) {
                is(7 - i, loom.snuff(i));
            }
        });
        sentence(4, NO_SUCH_WICK, () -> refusesWicksThatAreNot((loom, wick) -> loom.snuff(wick)));
        sentence(4, "Throws `UnsupportedOperationException` if denied: 5", () -> {
            CandleLoom loom = wicks(1);
            denies(loom, 5, 0, () -> loom.snuff(0));
            loom.addWick(0, 1, 1);
            loom.light(1);
            loom.weave(1);
            denies(loom, 5, 0, () -> loom.snuff(1));
        });
    }

    private static void addWax() {
        sentence(5, "Adds wax to a wick.", () -> {
            CandleLoom loom = wicks(3);
            loom.light(2);
            loom.addWax(1, 6);
            loom.addWax(2, 7);
            is(9, loom.wax(0));
            is(15, loom.wax(1));
            is(16, loom.wax(2));
            no(loom.isLit(1));
            yes(loom.isLit(2));
            is(0, loom.waxUsed());
        });
        sentence(5, WICK, () -> {
            CandleLoom loom = wicks(8);
            is(10, loom.addWax(0, 1));
            is(11, loom.addWax(7, 2));
            is(10, loom.wax(0));
            is(11, loom.wax(7));
        });
        sentence(5, "`wax`: the amount, 1 to 50", () -> {
            CandleLoom loom = wicks(1);
            is(10, loom.addWax(0, 1));
            is(60, loom.addWax(0, 50));
        });
        sentence(5, "Returns the wax of the wick afterwards.", () -> {
            CandleLoom loom = new CandleLoom();
            loom.addWick(0, 1, 0);
            is(1, loom.addWax(0, 1));
            is(50, loom.addWax(0, 49));
            is(99, loom.addWax(0, 49));
        });
        sentence(5, NO_SUCH_WICK, () -> {
            refusesWicksThatAreNot((loom, wick) -> loom.addWax(wick, 1));
            refusesWicksThatAreNot((loom, wick) -> loom.addWax(wick, 0));
        });
        sentence(5, "Throws `IllegalArgumentException` if the amount is out of range", () -> {
            CandleLoom loom = wicks(1);
            refuses(RANGE, () -> loom.addWax(0, 0));
            refuses(RANGE, () -> loom.addWax(0, 51));
            refuses(RANGE, () -> loom.addWax(0, -1));
            refuses(RANGE, () -> loom.addWax(0, LEAST));
            refuses(RANGE, () -> loom.addWax(0, GREATEST));
            is(9, loom.wax(0));
            loom.addWick(0, 1, 99);
            refuses(RANGE, () -> loom.addWax(1, 51));
        });
        sentence(5, "Throws `UnsupportedOperationException` if denied: 1 (more than 99)", () -> {
            CandleLoom loom = new CandleLoom();
            loom.addWick(0, 1, 50);
            denies(loom, 1, 99, () -> loom.addWax(0, 50));
            is(50, loom.wax(0));
            is(99, loom.addWax(0, 49));
            denies(loom, 1, 99, () -> loom.addWax(0, 1));
            is(99, loom.wax(0));
        });
    }

    private static void counts() {
        sentence(6, "Returns the number of wicks.", () -> {
            for (int count = 0; count <= 8; count++) {
                CandleLoom loom = wicks(count);
                is(count, loom.wickCount());
            }
            CandleLoom burnt = Check.lit(0, 1, 1);
            burnt.weave(1);
            is(1, burnt.wickCount());
        });
        sentence(7, "Returns the number of lit wicks.", () -> {
            CandleLoom loom = wicks(8);
            is(0, loom.litCount());
            loom.light(0);
            loom.light(7);
            is(2, loom.litCount());
            loom.snuff(0);
            is(1, loom.litCount());
        });
        sentence(7, "Returns the number of wicks.", () -> {
            CandleLoom loom = Check.lit(0, 1, 1, 0, 1, 2, 0, 1, 3);
            for (int due = 3; due > 0; due--) {
                is(due, loom.litCount());
                loom.weave(1);
            }
            is(0, loom.litCount());
            is(3, loom.wickCount());
        });
    }

    private static void isLit() {
        sentence(8, "Returns whether a wick is lit.", () -> {
            CandleLoom loom = wicks(2);
            loom.light(1);
            no(loom.isLit(0));
            yes(loom.isLit(1));
        });
        sentence(8, WICK, () -> {
            CandleLoom loom = wicks(8);
            loom.light(7);
            no(loom.isLit(0));
            yes(loom.isLit(7));
            loom.light(0);
            yes(loom.isLit(0));
        });
        sentence(8, "Returns whether it is lit.", () -> {
            CandleLoom loom = Check.lit(0, 1, 1, 0, 1, 2);
            yes(loom.isLit(0));
            loom.weave(1);
            no(loom.isLit(0));
            yes(loom.isLit(1));
            loom.snuff(1);
            no(loom.isLit(1));
            loom.undo();
            yes(loom.isLit(1));
        });
        sentence(8, NO_SUCH_WICK, () -> refusesWicksThatAreNot((loom, wick) -> loom.isLit(wick)));
    }

    private static void wax() {
        sentence(9, "Returns the wax of a wick.", () -> {
            CandleLoom loom = Check.lit(0, 1, 7, 0, 1, 8);
            loom.weave(3);
            is(4, loom.wax(0));
            is(5, loom.wax(1));
        });
        sentence(9, WICK, () -> {
            CandleLoom loom = wicks(8);
            loom.addWax(0, 1);
            loom.addWax(7, 2);
            is(10, loom.wax(0));
            is(9, loom.wax(6));
            is(11, loom.wax(7));
        });
        sentence(9, "Returns the wax.", () -> {
            CandleLoom loom = new CandleLoom();
            loom.addWick(0, 1, 0);
            is(0, loom.wax(0));
            loom.addWick(0, 1, 99);
            is(99, loom.wax(1));
            loom.light(1);
            loom.weave(1);
            is(98, loom.wax(1));
        });
        sentence(9, NO_SUCH_WICK, () -> refusesWicksThatAreNot((loom, wick) -> loom.wax(wick)));
    }

    private static void wickByWax() {
        sentence(10, "Returns the wick at a rank: lit ones first, then by wax in descending order, then by index in "
                + "ascending order.", () -> {
            // Wicks 2, 3, 6 and 7 are lit; in both halves two have the same wax.
            int[] waxes = {40, 50, 3, 4, 50, 0, 4, 1};
            CandleLoom loom = new CandleLoom();
            for (int wax : waxes) {
                loom.addWick(0, 1, wax);
            }
            for (int wick : new int[] {7, 6, 3, 2}) {
                loom.light(wick);
            }
            int[] due = {3, 6, 2, 7, 1, 4, 0, 5};
            for (int rank = 0; rank < 8; rank++) {
                is(due[rank], loom.wickByWax(rank));
            }
            loom.weave(1);
            // Wick 7 has gone out, and has no wax, as wick 5.
            int[] then = {3, 6, 2, 1, 4, 0, 5, 7};
            for (int rank = 0; rank < 8; rank++) {
                is(then[rank], loom.wickByWax(rank));
            }
        });
        sentence(10, "`rank`: the rank, from 0", () -> {
            CandleLoom loom = wicks(8);
            for (int rank = 0; rank < 8; rank++) {
                is(rank, loom.wickByWax(rank));
            }
        });
        sentence(10, "Returns the index of the wick.", () -> {
            CandleLoom loom = wicks(2);
            loom.light(1);
            is(1, loom.wickByWax(0));
            is(0, loom.wickByWax(1));
        });
        sentence(10, "Throws `NoSuchElementException` if there is no such rank", () -> {
            for (int count = 0; count <= 8; count++) {
                CandleLoom loom = wicks(count);
                int next = count;
                refuses(NONE, () -> loom.wickByWax(next));
                refuses(NONE, () -> loom.wickByWax(-1));
                refuses(NONE, () -> loom.wickByWax(LEAST));
                refuses(NONE, () -> loom.wickByWax(GREATEST));
            }
        });
    }

    private static void nextMask() {
        sentence(11, "Returns the mask that the next row would have.", () -> {
            for (int left = 0; left <= 4; left += 2) {
                for (int right = 0; right <= 4; right++) {
                    CandleLoom loom = burnt(left, right);
                    loom.light(loom.addWick(0, 65535, 9));
                    loom.light(loom.addWick(0, 96, 9));
                    int next = loom.nextMask();
                    is(next, loom.nextMask());
                    is(0, loom.rowCount());
                    is((65439 >> left << left) % (1 << 16 - right), next);
                    loom.weave(1);
                    is(next, loom.rowMask(0));
                }
            }
            CandleLoom full = woven(40);
            is(6, full.nextMask());
            CandleLoom hot = Check.lit(0, 1, 9);
            hot.weave(4);
            is(1, hot.nextMask());
            hot.weave(1);
            is(0, hot.nextMask());
        });
        sentence(11, "Returns the mask, 0 if no wick is lit.", () -> {
            is(0, new CandleLoom().nextMask());
            CandleLoom loom = wicks(8);
            is(0, loom.nextMask());
            loom.light(7);
            is(128, loom.nextMask());
            loom.snuff(7);
            is(0, loom.nextMask());
        });
    }

    private static void rowsUntilDark() {
        sentence(12, "Returns the number of rows that could be woven until no wick is lit, whatever the number of "
                + "rows of the cloth is, found row by row.", () -> {
            CandleLoom loom = Check.lit(0, 2, 3, 0, 2, 99, 0, 2, 40);
            is(99, loom.rowsUntilDark());
            is(0, loom.rowCount());
            is(3, loom.wax(0));
            loom.snuff(1);
            is(40, loom.rowsUntilDark());
            CandleLoom full = woven(40);
            is(59, full.rowsUntilDark());
            full.undo();
            is(69, full.rowsUntilDark());
        });
        sentence(12, "Returns the number of rows, 0 if no wick is lit.", () -> {
            is(0, new CandleLoom().rowsUntilDark());
            CandleLoom loom = wicks(3);
            is(0, loom.rowsUntilDark());
            loom.addWick(0, 1, 1);
            loom.light(3);
            is(1, loom.rowsUntilDark());
            loom.weave(1);
            is(0, loom.rowsUntilDark());
        });
    }

    private static void rowsUntilDarkByWax() {
        sentence(13, "Returns the same number as rowsUntilDark, found from the wax of the lit wicks.", () -> {
            CandleLoom loom = Check.lit(0, 2, 12, 0, 2, 7, 0, 2, 30);
            loom.addWick(0, 2, 99);
            for (int due : new int[] {30, 20, 10, 0}) {
                is(due, loom.rowsUntilDarkByWax());
                is(due, loom.rowsUntilDark());
                if (due > 0) {
                    loom.weave(10);
                }
            }
        });
        sentence(13, "Returns the number of rows.", () -> {
            is(0, new CandleLoom().rowsUntilDarkByWax());
            is(0, wicks(8).rowsUntilDarkByWax());
            is(99, Check.lit(0, 1, 99).rowsUntilDarkByWax());
            is(1, Check.lit(0, 1, 1).rowsUntilDarkByWax());
            is(8, Check.lit(0, 1, 8, 0, 1, 3).rowsUntilDarkByWax());
            is(8, Check.lit(0, 1, 3, 0, 1, 8).rowsUntilDarkByWax());
            is(59, woven(40).rowsUntilDarkByWax());
        });
    }
}
