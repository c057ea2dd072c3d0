/** What the document says of undo before its promises, and promises 50 to 53. */
final class UndoSentences extends Sentences {
    static void all() {
        changes();
        latestEight();
        notAffected();
        undo();
        undoCount();
        saveSnapshot();
        restoreSnapshot();
    }

    /** A loom for which each change is possible; it has made six changes that can be undone. */
    private static CandleLoom rich() {
        CandleLoom loom = burnt(1, 1);
        loom.saveSnapshot();
        loom.restoreSnapshot();
        loom.light(0);
        loom.addWick(2, 6, 40);
        loom.light(2);
        loom.weave(3);
        loom.snuff(2);
        loom.knot(0, 4);
        return loom;
    }

    private static void changes() {
        sentence(TERMS, "The calls of the methods to which commands correspond, and of execute, that do not throw an "
                + "exception are the changes.", () -> {
            change(loom -> loom.addWick(0, 1, 0));
            change(loom -> loom.light(1));
            change(loom -> loom.snuff(0));
            change(loom -> loom.addWax(2, 1));
            change(loom -> loom.weave(1));
            change(loom -> loom.ravel(1));
            change(loom -> loom.repeatLast(1, 1));
            change(loom -> loom.knot(0, 0));
            change(loom -> loom.untie(0, 4));
            change(loom -> loom.mend('l'));
            change(loom -> loom.mend('r'));
            change(loom -> Check.execute(loom, "light 1;snuff 1;light 1"));
            CandleLoom loom = rich();
            refuses(DENIED, () -> loom.light(0));
            refuses(RANGE, () -> loom.addWick(8, 1, 1));
            refuses(INDEX, () -> loom.knot(3, 0));
            refuses(RANGE, () -> loom.execute());
            refuses(DENIED, () -> Check.execute(loom, "light 1;light 1"));
            loom.feed('w');
            loom.writeRow(0);
            loom.writeWicks();
            loom.saveSnapshot();
            loom.wickByWax(0);
            loom.nextMask();
            loom.rowsUntilDark();
            loom.rowsUntilDarkByWax();
            loom.period();
            loom.nextKnotRow(0);
            is(6, loom.undoCount());
            is(5, loom.undo());
            is(0, loom.knotCount());
        });
    }

    private static void change(java.util.function.Consumer<CandleLoom> call) {
        CandleLoom loom = rich();
        String before = Picture.of(loom);
        is(6, loom.undoCount());
        call.accept(loom);
        is(7, loom.undoCount());
        no(before.equals(Picture.of(loom).replace("undo 7", "undo 6")));
        is(6, loom.undo());
        is(before, Picture.of(loom));
    }

    private static void latestEight() {
        sentence(TERMS, "The latest 8 changes can be undone; older ones are forgotten.", () -> {
            for (int changes = 1; changes <= 20; changes++) {
                CandleLoom loom = new CandleLoom();
                loom.addWick(0, 2, 40);
                loom.saveSnapshot();
                loom.restoreSnapshot();
                loom.light(0);
                for (int i = 1; i < changes; i++) {
                    loom.weave(1);
                }
                is(Math.min(changes, 8), loom.undoCount());
                for (int left = Math.min(changes, 8) - 1; left >= 0; left--) {
                    is(left, loom.undo());
                }
                refuses(STATE, () -> loom.undo());
                is(Math.max(0, changes - 9), loom.rowCount());
                is(changes > 8, loom.isLit(0));
            }
        });
    }

    private static void notAffected() {
        sentence(TERMS, "The text buffer, the fault position, the output line and the latest denial are affected "
                + "neither by undo nor by snapshots.", () -> {
            notAffectedBy(loom -> loom.undo());
            notAffectedBy(loom -> loom.saveSnapshot());
            notAffectedBy(loom -> loom.restoreSnapshot());
        });
    }

    private static void notAffectedBy(java.util.function.Consumer<CandleLoom> call) {
        CandleLoom loom = wicks(2);
        loom.saveSnapshot();
        loom.light(1);
        refuses(RANGE, () -> Check.execute(loom, "light "));
        Check.failsAt(loom, "snuff 1;light 0;snuff 1", 2, 5);
        loom.writeWicks();
        Check.feed(loom, "wick 5 9 3");
        call.accept(loom);
        is(6, loom.faultPosition());
        is("7 2 5", Picture.denial(loom));
        is("-0=9,*1=9", Check.line(loom, 9));
        is(11, loom.feed('3'));
        is(1, loom.execute());
        is(33, loom.wax(2));
        // What stood before the snapshot or the undone change does not come back either.
        CandleLoom fresh = wicks(1);
        fresh.saveSnapshot();
        fresh.addWax(0, 1);
        refuses(DENIED, () -> fresh.weave(1));
        refuses(RANGE, () -> Check.execute(fresh, "x"));
        fresh.writeWicks();
        fresh.feed('m');
        call.accept(fresh);
        is(0, fresh.faultPosition());
        is("2 1 none", Picture.denial(fresh));
        is("-0=10", Check.line(fresh, 5));
        is(2, fresh.feed('e'));
    }

    /** A row is undone that stands where another stood before. */
    private static void rowsComeBack() {
        CandleLoom loom = Check.lit(1, 12, 40, 6, 80, 30);
        loom.weave(2);
        loom.knot(0, 3);
        loom.ravel(1);
        loom.snuff(0);
        loom.weave(1);
        is(6, loom.rowColour(1));
        is(80, loom.rowMask(1));
        loom.knot(1, 5);
        loom.undo();
        loom.undo();
        loom.undo();
        loom.undo();
        is(2, loom.rowCount());
        is(1, loom.rowColour(1));
        is(92, loom.rowMask(1));
        yes(loom.isKnotted(0, 3));
        no(loom.isKnotted(1, 5));
    }

    private static void undo() {
        sentence(50, "Undoes the latest change that can be undone.", () -> {
            rowsComeBack();
            CandleLoom loom = rich();
            loom.undo();
            no(loom.isKnotted(0, 4));
            no(loom.isLit(2));
            loom.undo();
            yes(loom.isLit(2));
            is(3, loom.rowCount());
            is(37, loom.wax(2));
            is(13, loom.wovenTotal());
            loom.undo();
            is(0, loom.rowCount());
            is(40, loom.wax(2));
            is(10, loom.wovenTotal());
            is(10, loom.waxUsed());
            is(0, loom.heat('l'));
            loom.undo();
            no(loom.isLit(2));
            loom.undo();
            is(2, loom.wickCount());
            // A change after an undo takes the place of the one that was undone.
            loom.addWick(7, 8, 9);
            loom.undo();
            is(2, loom.wickCount());
            yes(loom.isLit(0));
            loom.undo();
            no(loom.isLit(0));
        });
        sentence(50, "Returns the number of changes that can be undone afterwards.", () -> {
            CandleLoom loom = wicks(8);
            for (int due = 7; due >= 0; due--) {
                is(due, loom.undo());
                is(due, loom.wickCount());
            }
            loom.addWick(0, 1, 1);
            is(0, loom.undo());
        });
        sentence(50, "Throws `IllegalStateException` if there is none", () -> {
            CandleLoom loom = new CandleLoom();
            refuses(STATE, () -> loom.undo());
            loom.addWick(0, 1, 1);
            loom.undo();
            refuses(STATE, () -> loom.undo());
            refuses(DENIED, () -> loom.weave(1));
            refuses(STATE, () -> loom.undo());
            CandleLoom nine = wicks(8);
            nine.light(0);
            for (int i = 0; i < 8; i++) {
                nine.undo();
            }
            refuses(STATE, () -> nine.undo());
            is(1, nine.wickCount());
        });
    }

    private static void undoCount() {
        sentence(51, "Returns the number of changes that can be undone.", () -> {
            CandleLoom loom = wicks(2);
            is(2, loom.undoCount());
            loom.light(0);
            is(3, loom.undoCount());
            loom.undo();
            is(2, loom.undoCount());
            is(2, loom.undoCount());
        });
        sentence(51, "Returns the number of changes.", () -> {
            is(0, new CandleLoom().undoCount());
            CandleLoom loom = Check.lit(0, 2, 99);
            for (int changes = 3; changes <= 40; changes++) {
                loom.weave(1);
                is(Math.min(changes, 8), loom.undoCount());
            }
        });
    }

    /** Wicks and rows are restored that stand where others have come to stand since. */
    private static void allComesBack() {
        CandleLoom loom = new CandleLoom();
        loom.addWick(5, 24, 9);
        loom.light(0);
        loom.weave(3);
        loom.knot(1, 2);
        loom.saveSnapshot();
        for (int i = 0; i < 4; i++) {
            loom.undo();
        }
        loom.addWick(2, 96, 50);
        loom.light(0);
        loom.weave(4);
        loom.knot(2, 2);
        is(2, loom.rowColour(0));
        loom.restoreSnapshot();
        is(6, loom.wax(0));
        is(24, loom.nextMask());
        is(3, loom.rowCount());
        is(24, loom.rowMask(2));
        is(5, loom.rowColour(2));
        yes(loom.isKnotted(1, 2));
        no(loom.isKnotted(2, 2));
        loom.weave(1);
        is(24, loom.rowMask(3));
        is(5, loom.rowColour(3));
        is(4, loom.writeWicks());
        is("*5=5", Check.line(loom, 4));
    }

    private static void saveSnapshot() {
        sentence(52, "Saves a snapshot of everything that changes can change; it replaces an earlier snapshot.", () -> {
            allComesBack();
            CandleLoom loom = rich();
            loom.saveSnapshot();
            String saved = Picture.of(loom);
            loom.saveSnapshot();
            is(saved, Picture.of(loom));
            loom.untie(0, 4);
            loom.weave(4);
            loom.mend('l');
            loom.mend('r');
            loom.addWax(2, 9);
            loom.light(1);
            loom.ravel(5);
            loom.addWick(1, 1, 1);
            loom.weave(2);
            loom.restoreSnapshot();
            is(saved.replace("undo 6", "undo 0"), Picture.of(loom));
            loom.addWick(4, 8, 7);
            loom.saveSnapshot();
            loom.addWick(4, 8, 6);
            loom.restoreSnapshot();
            is(4, loom.wickCount());
            is(7, loom.wax(3));
        });
        sentence(52, "Returns the number of rows.", () -> {
            is(0, new CandleLoom().saveSnapshot());
            CandleLoom loom = woven(40);
            is(40, loom.saveSnapshot());
            loom.ravel(3);
            is(37, loom.saveSnapshot());
            is(37, loom.saveSnapshot());
        });
    }

    private static void restoreSnapshot() {
        sentence(53, "Restores the snapshot, which is kept.", () -> {
            CandleLoom loom = rich();
            loom.saveSnapshot();
            String saved = Picture.of(loom).replace("undo 6", "undo 0");
            for (int i = 0; i < 2; i++) {
                loom.weave(5);
                loom.addWick(0, 8, 8);
                loom.restoreSnapshot();
                is(saved, Picture.of(loom));
            }
            loom.weave(2);
            loom.undo();
            is(3, loom.restoreSnapshot());
            // The snapshot stays when the changes before it are undone.
            CandleLoom undone = wicks(3);
            undone.saveSnapshot();
            undone.undo();
            undone.undo();
            undone.restoreSnapshot();
            is(3, undone.wickCount());
        });
        sentence(53, "No change can be undone afterwards.", () -> {
            CandleLoom loom = wicks(8);
            loom.saveSnapshot();
            is(8, loom.undoCount());
            loom.restoreSnapshot();
            is(0, loom.undoCount());
            refuses(STATE, () -> loom.undo());
            is(8, loom.wickCount());
            loom.light(0);
            is(1, loom.undoCount());
            is(0, loom.undo());
            is(0, loom.litCount());
            refuses(STATE, () -> loom.undo());
        });
        sentence(53, "Returns the number of rows afterwards.", () -> {
            CandleLoom loom = woven(12);
            loom.saveSnapshot();
            loom.ravel(10);
            is(12, loom.restoreSnapshot());
            loom.weave(10);
            is(12, loom.restoreSnapshot());
            CandleLoom empty = new CandleLoom();
            empty.saveSnapshot();
            is(0, empty.restoreSnapshot());
        });
        sentence(53, "Throws `IllegalStateException` if there is no snapshot", () -> {
            CandleLoom loom = wicks(1);
            refuses(STATE, () -> loom.restoreSnapshot());
            loom.undo();
            refuses(STATE, () -> loom.restoreSnapshot());
            loom.saveSnapshot();
            is(0, loom.restoreSnapshot());
            is(0, loom.restoreSnapshot());
        });
    }
}
