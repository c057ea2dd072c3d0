import java.util.function.Consumer;

/** What the document says of exceptions before its promises. */
final class ExceptionsSentences extends Sentences {
    static void all() {
        sentence(TERMS, "A method that throws an exception does not change the state, unless its documentation says "
                + "otherwise.", () -> {
            wicks();
            rows();
            cells();
            edges();
            patterns();
            textsAndLines();
            undo();
            executeChangesWhatItSays();
        });
        sentence(TERMS, "If the conditions of several exceptions hold, the one that is documented first is "
                + "thrown.", ExceptionsSentences::order);
    }

    /** A loom in which everything differs from how it begins: text, line, fault, denial, snapshot and undo too. */
    private static CandleLoom busy() {
        CandleLoom loom = Check.lit(3, 32769, 70, 5, 6, 7);
        loom.addWick(1, 8, 0);
        loom.weave(6);
        loom.knot(1, 2);
        loom.saveSnapshot();
        loom.ravel(2);
        refuses(RANGE, () -> Check.execute(loom, "wax"));
        refuses(DENIED, () -> loom.light(0));
        loom.writeWicks();
        loom.knot(3, 0);
        Check.feed(loom, "we");
        return loom;
    }

    private static void unchanged(Class<?> due, Consumer<CandleLoom> call) {
        unchanged(due, loom -> { }, call);
    }

    /** Compares a loom with its twin, to which the same calls came but the one that is refused. */
    private static void unchanged(Class<?> due, Consumer<CandleLoom> before, Consumer<CandleLoom> call) {
        CandleLoom loom = busy();
        CandleLoom twin = busy();
        before.accept(loom);
        before.accept(twin);
        refuses(due, () -> call.accept(loom));
        is(Picture.of(twin), Picture.of(loom));
        if (due != DENIED) {
            is(Picture.denial(twin), Picture.denial(loom));
        }
        is(feedOrMinusOne(twin), feedOrMinusOne(loom));
        refuses(RANGE, () -> twin.execute());
        refuses(RANGE, () -> loom.execute());
        is(twin.faultPosition(), loom.faultPosition());
        if (twin.undoCount() > 0) {
            is(twin.undo(), loom.undo());
            is(Picture.of(twin), Picture.of(loom));
        }
        is(twin.restoreSnapshot(), loom.restoreSnapshot());
        is(Picture.of(twin), Picture.of(loom));
    }

    private static int feedOrMinusOne(CandleLoom loom) {
        try {
            return loom.feed('a');
        } catch (IllegalStateException e) {
            return -1;
        }
    }

    private static void wicks() {
        Consumer<CandleLoom> five = loom -> {
            for (int i = 0; i < 5; i++) {
                loom.addWick(7, 9, 9);
            }
        };
        unchanged(RANGE, loom -> loom.addWick(8, 1, 1));
        unchanged(RANGE, loom -> loom.addWick(1, 65536, 1));
        unchanged(RANGE, loom -> loom.addWick(1, 1, 100));
        unchanged(DENIED, five, loom -> loom.addWick(1, 1, 1));
        unchanged(INDEX, loom -> loom.light(3));
        unchanged(DENIED, loom -> loom.light(0));
        unchanged(DENIED, loom -> loom.light(2));
        unchanged(INDEX, loom -> loom.snuff(3));
        unchanged(DENIED, loom -> loom.snuff(2));
        unchanged(INDEX, loom -> loom.addWax(3, 1));
        unchanged(RANGE, loom -> loom.addWax(0, 51));
        unchanged(DENIED, loom -> loom.addWax(0, 50));
        unchanged(INDEX, loom -> loom.isLit(3));
        unchanged(INDEX, loom -> loom.wax(-1));
        unchanged(NONE, loom -> loom.wickByWax(3));
    }

    private static void rows() {
        unchanged(RANGE, loom -> loom.weave(11));
        unchanged(DENIED, loom -> {
            loom.snuff(0);
            loom.snuff(1);
        }, loom -> loom.weave(1));
        unchanged(DENIED, loom -> loom.repeatLast(4, 8), loom -> loom.weave(5));
        unchanged(RANGE, loom -> loom.ravel(11));
        unchanged(DENIED, loom -> loom.ravel(5));
        unchanged(DENIED, loom -> loom.ravel(1));
        unchanged(DENIED, loom -> loom.weave(2), loom -> loom.ravel(3));
        unchanged(RANGE, loom -> loom.repeatLast(0, 1));
        unchanged(RANGE, loom -> loom.repeatLast(1, 10));
        unchanged(DENIED, loom -> loom.repeatLast(5, 1));
        unchanged(DENIED, loom -> loom.weave(1), loom -> loom.repeatLast(4, 9));
    }

    private static void cells() {
        unchanged(INDEX, loom -> loom.knot(4, 1));
        unchanged(INDEX, loom -> loom.knot(0, 16));
        unchanged(DENIED, loom -> loom.knot(1, 2));
        unchanged(INDEX, loom -> loom.untie(-1, 1));
        unchanged(INDEX, loom -> loom.untie(1, -1));
        unchanged(DENIED, loom -> loom.untie(2, 1));
        unchanged(INDEX, loom -> loom.rowMask(4));
        unchanged(INDEX, loom -> loom.rowColour(4));
        unchanged(INDEX, loom -> loom.isRaised(0, 16));
        unchanged(INDEX, loom -> loom.isKnotted(4, 0));
        unchanged(INDEX, loom -> loom.nextKnotRow(4));
        unchanged(INDEX, loom -> loom.nextKnotColumn(-1));
        unchanged(NONE, loom -> loom.untie(3, 0), loom -> loom.nextKnotRow(2));
        unchanged(NONE, loom -> loom.untie(3, 0), loom -> loom.nextKnotColumn(2));
    }

    private static void edges() {
        unchanged(RANGE, loom -> loom.mend('x'));
        unchanged(DENIED, loom -> {
            loom.mend('l');
            loom.weave(2);
        }, loom -> loom.mend('l'));
        unchanged(DENIED, loom -> {
            loom.mend('r');
            loom.weave(2);
        }, loom -> loom.mend('r'));
        unchanged(RANGE, loom -> loom.burn('b'));
        unchanged(RANGE, loom -> loom.heat('h'));
    }

    private static void patterns() {
        Consumer<CandleLoom> clear = loom -> {
            loom.untie(3, 0);
            loom.untie(1, 2);
            loom.ravel(4);
        };
        unchanged(NONE, clear, loom -> loom.period());
        unchanged(NONE, clear, loom -> loom.periodByBorders());
        unchanged(NO_ROWS, clear, loom -> loom.meanRaised());
        unchanged(NO_ROWS, clear, loom -> loom.knotShare());
        unchanged(RANGE, loom -> loom.occurrences(5));
        unchanged(INDEX, loom -> loom.distance(0, 4));
        unchanged(INDEX, loom -> loom.longestFloat(16));
    }

    private static void textsAndLines() {
        unchanged(STATE, loom -> Check.feed(loom, "x".repeat(58)), loom -> loom.feed('y'));
        unchanged(INDEX, loom -> loom.writeRow(4));
        unchanged(INDEX, loom -> loom.lineCharacter(99));
        unchanged(NONE, loom -> loom.denialCause());
        CandleLoom fresh = Check.lit(0, 2, 9);
        String before = Picture.of(fresh);
        refuses(NONE, () -> fresh.faultPosition());
        refuses(NONE, () -> fresh.denial());
        refuses(NONE, () -> fresh.denialDetail());
        refuses(NONE, () -> fresh.denialCause());
        is(before, Picture.of(fresh));
        is("none none none", Picture.denial(fresh));
        is(1, fresh.feed('x'));
    }

    private static void undo() {
        unchanged(STATE, loom -> {
            loom.saveSnapshot();
            loom.restoreSnapshot();
        }, loom -> loom.undo());
        CandleLoom fresh = Check.lit(0, 2, 9);
        fresh.weave(2);
        String before = Picture.of(fresh);
        refuses(STATE, () -> fresh.restoreSnapshot());
        is(before, Picture.of(fresh));
        is(2, fresh.undo());
    }

    /** What execute changes when it throws: the buffer, and either the fault position or the latest denial. */
    private static void executeChangesWhatItSays() {
        CandleLoom fault = busy();
        String before = Picture.of(fault);
        Check.feed(fault, "ave 5;");
        refuses(RANGE, () -> fault.execute());
        is(before.replace("fault 3", "fault 8"), Picture.of(fault));
        is("5 1 none", Picture.denial(fault));
        is(1, fault.feed('w'));
        CandleLoom denied = busy();
        Check.feed(denied, "ave 5;untie 3 0;ravel 5;mend l;light 0");
        refuses(DENIED, () -> denied.execute());
        is(before, Picture.of(denied));
        is("7 4 5", Picture.denial(denied));
        is(1, denied.feed('w'));
        denied.undo();
        no(denied.isKnotted(3, 0));
        yes(denied.isKnotted(1, 2));
        is(6, denied.restoreSnapshot());
    }

    private static void order() {
        CandleLoom full = wicks(8);
        refuses(RANGE, () -> full.addWick(8, 1, 1));
        refuses(RANGE, () -> full.addWick(0, 65536, 1));
        refuses(RANGE, () -> full.addWick(0, 1, -1));
        refuses(INDEX, () -> full.addWax(8, 51));
        refuses(INDEX, () -> full.addWax(-1, 0));
        full.addWax(0, 50);
        refuses(RANGE, () -> full.addWax(0, 51));
        refuses(RANGE, () -> full.weave(0));
        refuses(RANGE, () -> full.weave(11));
        refuses(RANGE, () -> full.ravel(11));
        refuses(RANGE, () -> full.repeatLast(21, 1));
        refuses(RANGE, () -> full.repeatLast(1, 10));
        refuses(RANGE, () -> full.mend('x'));
        refuses(INDEX, () -> full.nextKnotRow(0));
        refuses(INDEX, () -> full.nextKnotColumn(0));
        // A command that would be denied stands ahead of a fault: nothing of the text is executed.
        refuses(RANGE, () -> Check.execute(full, "snuff 0;snuff"));
        refuses(NONE, () -> full.denial());
        CandleLoom rows = woven(40);
        rows.knot(39, 0);
        refuses(RANGE, () -> rows.weave(11));
        refuses(RANGE, () -> rows.ravel(11));
        refuses(RANGE, () -> rows.repeatLast(20, 10));
        refuses(INDEX, () -> rows.knot(39, 16));
        refuses(INDEX, () -> rows.nextKnotRow(40));
        refuses(NONE, () -> rows.denial());
    }
}
