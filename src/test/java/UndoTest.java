/** Promises 50 to 53. */
public final class UndoTest {
    public static void main(String[] args) {
        Check.watch();
        eachChange();
        onlyChanges();
        eightChanges();
        textsAreOneChange();
        snapshots();
        snapshotsAndUndo();
        everyPartIsRestored();
        Check.end();
    }

    private static void eachChange() {
        CandleLoom loom = new CandleLoom();
        Check.fails("nothing to undo", Check.STATE, () -> loom.undo());
        loom.addWick(1, 32769, 20);
        Check.same("add", 0, loom.undo());
        Check.same("no wick", 0, loom.wickCount());
        loom.addWick(1, 32769, 20);
        loom.light(0);
        loom.undo();
        Check.no("not lit", loom.isLit(0));
        loom.light(0);
        loom.snuff(0);
        loom.undo();
        Check.yes("lit", loom.isLit(0));
        loom.addWax(0, 5);
        loom.undo();
        Check.same("wax", 20, loom.wax(0));
        loom.weave(6);
        loom.undo();
        Check.same("rows", 0, loom.rowCount());
        Check.same("wax", 20, loom.wax(0));
        Check.same("burn", 0, loom.burn('l'));
        Check.same("heat", 0, loom.heat('r'));
        Check.same("woven", 0, loom.wovenTotal());
        Check.same("used", 0, loom.waxUsed());
        loom.weave(6);
        loom.ravel(4);
        loom.undo();
        Check.same("rows are back", 6, loom.rowCount());
        Check.same("with their masks", 32769, loom.rowMask(4));
        Check.same("with their burnt masks", 0, loom.rowMask(5));
        loom.repeatLast(2, 2);
        loom.undo();
        Check.same("rows", 6, loom.rowCount());
        loom.knot(1, 1);
        loom.undo();
        Check.same("knots", 0, loom.knotCount());
        loom.knot(1, 1);
        loom.untie(1, 1);
        loom.undo();
        Check.yes("knotted", loom.isKnotted(1, 1));
        loom.mend('r');
        loom.undo();
        Check.same("burn", 1, loom.burn('r'));
        Check.same("heat", 1, loom.heat('r'));
    }

    private static void onlyChanges() {
        CandleLoom loom = Check.lit(1, 2, 9);
        Check.same("two changes", 2, loom.undoCount());
        Check.fails("denied", Check.DENIED, () -> loom.light(0));
        Check.fails("out of range", Check.RANGE, () -> loom.weave(0));
        Check.fails("no index", Check.INDEX, () -> loom.snuff(1));
        Check.fails("no text", Check.RANGE, () -> loom.execute());
        loom.feed('w');
        loom.writeWicks();
        loom.saveSnapshot();
        loom.nextMask();
        Check.same("still two changes", 2, loom.undoCount());
        Check.same("one left", 1, loom.undo());
        Check.same("one left", 1, loom.undoCount());
        Check.same("none left", 0, loom.undo());
        Check.fails("nothing to undo", Check.STATE, () -> loom.undo());
        Check.same("none left", 0, loom.undoCount());
    }

    private static void eightChanges() {
        CandleLoom loom = Check.lit(1, 2, 99);
        for (int i = 1; i <= 11; i++) {
            loom.weave(1);
            Check.same("changes " + i, Math.min(i + 2, 8), loom.undoCount());
        }
        for (int i = 7; i >= 0; i--) {
            Check.same("undo " + i, i, loom.undo());
            Check.same("rows " + i, i + 3, loom.rowCount());
        }
        Check.fails("forgotten", Check.STATE, () -> loom.undo());
        Check.same("rows", 3, loom.rowCount());
        for (int i = 0; i < 5; i++) {
            loom.weave(1);
        }
        loom.undo();
        loom.undo();
        for (int i = 0; i < 7; i++) {
            loom.weave(2);
        }
        Check.same("eight again", 8, loom.undoCount());
        for (int i = 6; i >= 0; i--) {
            loom.undo();
            Check.same("rows by two " + i, 6 + 2 * i, loom.rowCount());
        }
        loom.undo();
        Check.same("rows", 5, loom.rowCount());
        Check.same("none left", 0, loom.undoCount());
    }

    private static void textsAreOneChange() {
        CandleLoom loom = new CandleLoom();
        Check.execute(loom, "wick 1 2 30;light 0;weave 5;knot 0 0");
        Check.same("one change", 1, loom.undoCount());
        Check.execute(loom, "untie 0 0;ravel 5;snuff 0");
        Check.same("two changes", 2, loom.undoCount());
        loom.undo();
        Check.same("rows", 5, loom.rowCount());
        Check.yes("knot", loom.isKnotted(0, 0));
        Check.yes("lit", loom.isLit(0));
        Check.same("none left", 0, loom.undo());
        Check.same("no wicks", 0, loom.wickCount());
        for (int i = 0; i < 9; i++) {
            Check.execute(loom, "wick 1 2 0");
            Check.same("a text", 0, loom.undo());
        }
        Check.fails("a fault", Check.RANGE, () -> Check.execute(loom, "wick"));
        loom.addWick(1, 1, 1);
        loom.undo();
        Check.same("the fault stays", 4, loom.faultPosition());
    }

    private static void snapshots() {
        CandleLoom loom = Check.lit(1, 32769, 30);
        Check.fails("no snapshot", Check.STATE, () -> loom.restoreSnapshot());
        loom.weave(6);
        loom.knot(2, 2);
        Check.same("save", 6, loom.saveSnapshot());
        loom.weave(7);
        loom.untie(2, 2);
        loom.mend('l');
        loom.snuff(0);
        loom.addWick(2, 2, 2);
        loom.addWax(0, 1);
        Check.same("restore", 6, loom.restoreSnapshot());
        Check.same("rows", 6, loom.rowCount());
        Check.yes("knot", loom.isKnotted(2, 2));
        Check.same("burn", 1, loom.burn('l'));
        Check.same("heat", 1, loom.heat('r'));
        Check.same("wicks", 1, loom.wickCount());
        Check.yes("lit", loom.isLit(0));
        Check.same("wax", 24, loom.wax(0));
        Check.same("woven", 6, loom.wovenTotal());
        Check.same("used", 6, loom.waxUsed());
        Check.same("nothing to undo", 0, loom.undoCount());
        Check.fails("undo", Check.STATE, () -> loom.undo());
        loom.weave(2);
        Check.same("the snapshot is kept", 6, loom.restoreSnapshot());
        loom.weave(2);
        Check.same("save again", 8, loom.saveSnapshot());
        loom.weave(1);
        Check.same("the new one", 8, loom.restoreSnapshot());
    }

    private static void everyPartIsRestored() {
        CandleLoom loom = new CandleLoom();
        loom.addWick(5, 32769, 40);
        loom.light(0);
        loom.weave(9);
        loom.knot(1, 2);
        loom.saveSnapshot();
        while (loom.undoCount() > 0) {
            loom.undo();
        }
        loom.addWick(2, 6, 9);
        loom.addWick(3, 8, 7);
        loom.light(1);
        loom.weave(2);
        loom.restoreSnapshot();
        Check.same("wicks", 1, loom.wickCount());
        Check.same("wax", 31, loom.wax(0));
        Check.same("mask of a row", 32769, loom.rowMask(0));
        Check.same("colour of a row", 5, loom.rowColour(1));
        Check.yes("knot", loom.isKnotted(1, 2));
        Check.same("left heat", 4, loom.heat('l'));
        Check.same("right heat", 4, loom.heat('r'));
        loom.mend('l');
        loom.mend('r');
        loom.weave(1);
        Check.same("mask of the wick", 32769, loom.rowMask(9));
        Check.same("colour of the wick", 5, loom.rowColour(9));
    }

    private static void snapshotsAndUndo() {
        CandleLoom loom = new CandleLoom();
        Check.same("empty", 0, loom.saveSnapshot());
        loom.addWick(1, 1, 9);
        loom.light(0);
        loom.feed('x');
        Check.fails("fault", Check.RANGE, () -> loom.execute());
        Check.fails("denied", Check.DENIED, () -> loom.light(0));
        loom.writeWicks();
        loom.feed('x');
        Check.same("empty again", 0, loom.restoreSnapshot());
        Check.same("no wicks", 0, loom.wickCount());
        Check.same("the buffer stays", 2, loom.feed('x'));
        Check.same("the line stays", "*1=9", Check.line(loom, 4));
        Check.same("the fault stays", 0, loom.faultPosition());
        Check.same("the denial stays", 5, loom.denial());
        loom.addWick(1, 1, 9);
        loom.saveSnapshot();
        loom.undo();
        Check.same("undo leaves the snapshot", 0, loom.restoreSnapshot());
        Check.same("with its wick", 1, loom.wickCount());
    }
}
