/** Promises 41 to 46: texts and output lines; and 47 to 49: the latest denial. */
public final class TextsTest {
    public static void main(String[] args) {
        Check.watch();
        feed();
        commands();
        numbers();
        faults();
        faultIsKept();
        allOrNone();
        causes();
        latestDenial();
        writeRow();
        writeWicks();
        Check.end();
    }

    private static void feed() {
        CandleLoom loom = new CandleLoom();
        for (int i = 1; i <= 60; i++) {
            Check.same("length " + i, i, loom.feed((char) (i * 1000)));
        }
        Check.fails("61 characters", Check.STATE, () -> loom.feed('w'));
        Check.fails("it does not match", Check.RANGE, () -> loom.execute());
        Check.same("fault", 0, loom.faultPosition());
        Check.same("the buffer is empty afterwards", 1, loom.feed('w'));
        CandleLoom full = Check.cloth(2);
        String text = "weave 9;ravel 10;weave 01;repeat 01 1;untie 00 00;knot 0 015";
        Check.same("the text has 60 characters", 60, text.length());
        Check.fails("a full buffer", Check.RANGE, () -> Check.execute(full, text));
        Check.same("fault in the last character", 59, full.faultPosition());
        CandleLoom fits = Check.cloth(2);
        String match = "weave 09;ravel 09;weave 02;repeat 01 1;knot 00 0;untie 00 00";
        Check.same("it has 60 characters too", 60, match.length());
        Check.same("a full buffer that matches", 6, Check.execute(fits, match));
        Check.same("it was executed", 4, fits.rowCount());
    }

    private static void commands() {
        CandleLoom loom = new CandleLoom();
        Check.same("wick and light", 2, Check.execute(loom, "wick 5 32769 12;light 0"));
        Check.same("a wick", 1, loom.wickCount());
        Check.same("its wax", 12, loom.wax(0));
        Check.yes("it is lit", loom.isLit(0));
        Check.same("wax", 1, Check.execute(loom, "wax 0 38"));
        Check.same("more wax", 50, loom.wax(0));
        Check.same("weave", 2, Check.execute(loom, "weave 10;weave 1"));
        Check.same("eleven rows", 11, loom.rowCount());
        Check.same("colour", 5, loom.rowColour(0));
        Check.same("mask", 32769, loom.rowMask(0));
        Check.same("ravel", 1, Check.execute(loom, "ravel 9"));
        Check.same("two rows", 2, loom.rowCount());
        Check.same("repeat", 1, Check.execute(loom, "repeat 2 3"));
        Check.same("eight rows", 8, loom.rowCount());
        Check.same("knot", 2, Check.execute(loom, "knot 7 15;knot 3 4"));
        Check.yes("row before column", loom.isKnotted(7, 15));
        Check.same("untie", 1, Check.execute(loom, "untie 7 15"));
        Check.same("one knot", 1, loom.knotCount());
        Check.same("mend", 1, Check.execute(loom, "mend l"));
        Check.same("left", 1, loom.burn('l'));
        Check.same("right", 2, loom.burn('r'));
        Check.same("mend right", 2, Check.execute(loom, "mend r;mend r"));
        Check.same("right", 0, loom.burn('r'));
        Check.same("snuff", 1, Check.execute(loom, "snuff 0"));
        Check.no("out", loom.isLit(0));
        Check.same("seven commands", 7, Check.execute(loom,
                "light 0;snuff 0;light 0;snuff 0;light 0;snuff 0;light 0"));
        Check.yes("the last one counts", loom.isLit(0));
        Check.execute(loom, "weave 10;weave 10");
        Check.same("eight commands", 8, Check.execute(loom,
                "mend l;mend l;mend l;mend r;mend r;mend r;snuff 0;light 0"));
        Check.same("all of them", 1, loom.burn('r'));
    }

    private static void numbers() {
        CandleLoom loom = new CandleLoom();
        Check.same("zeros in front", 1, Check.execute(loom, "wick 0 00012 09"));
        loom.light(0);
        Check.same("mask", 12, loom.nextMask());
        Check.same("wax", 9, loom.wax(0));
        Check.failsAt(loom, "wick 0 65536 9", 0, 8);
        Check.failsAt(loom, "wick 0 99999 9", 0, 8);
        Check.failsAt(loom, "wick 0 00000 9", 0, 8);
        Check.failsAt(loom, "wick 9 1 9", 0, 8);
    }

    private static void faults() {
        Check.fault("", 0);
        Check.fault("x", 0);
        Check.fault(";", 0);
        Check.fault(" weave 1", 0);
        Check.fault("Weave 1", 0);
        Check.fault("w", 1);
        Check.fault("wi", 2);
        Check.fault("wo", 1);
        Check.fault("wexve 1", 2);
        Check.fault("weav 1", 4);
        Check.fault("weave1", 5);
        Check.fault("weave", 5);
        Check.fault("weave ", 6);
        Check.fault("weave  1", 6);
        Check.fault("weave -1", 6);
        Check.fault("weave 1;", 8);
        Check.fault("weave 1;;weave 1", 8);
        Check.fault("weave 1; weave 1", 8);
        Check.fault("weave 1 ", 7);
        Check.fault("weave 100", 8);
        Check.fault("weave 1x", 7);
        Check.fault("weave 1,weave 1", 7);
        Check.fault("light 12", 7);
        Check.fault("light 1;snuff 12", 15);
        Check.fault("wax 12 1", 5);
        Check.fault("wax 1", 5);
        Check.fault("wax 1 ", 6);
        Check.fault("wax 1 123", 8);
        Check.fault("wick 1 123456 1", 12);
        Check.fault("wick 1 12345", 12);
        Check.fault("wick 1 1  1", 9);
        Check.fault("wick 1;", 6);
        Check.fault("wick 12", 6);
        Check.fault("repeat 12 12", 11);
        Check.fault("repeat 123", 9);
        Check.fault("re", 2);
        Check.fault("rx", 1);
        Check.fault("ra ", 2);
        Check.fault("knot 12 123", 10);
        Check.fault("untie 1", 7);
        Check.fault("mend", 4);
        Check.fault("mend ", 5);
        Check.fault("mend x", 5);
        Check.fault("mend L", 5);
        Check.fault("mend ll", 6);
        Check.fault("mend l;m", 8);
        Check.fault("mend l;r", 8);
        Check.fault("weave " + (char) 0x661, 6);
        Check.fault("weave /", 6);
        Check.fault("weave :", 6);
        Check.fault("l\u0130ght 1", 1);
    }

    private static void faultIsKept() {
        CandleLoom loom = new CandleLoom();
        Check.fails("nothing kept yet", Check.NONE, () -> loom.faultPosition());
        Check.failsAt(loom, "weave 1", 0, 2);
        Check.fails("a denial keeps no fault", Check.NONE, () -> loom.faultPosition());
        Check.fails("fault", Check.RANGE, () -> Check.execute(loom, "weave x"));
        Check.same("kept", 6, loom.faultPosition());
        Check.same("a fault is no denial", 7, loom.denial());
        Check.execute(loom, "wick 1 2 30");
        Check.same("kept after a text that matches", 6, loom.faultPosition());
        Check.same("only one command", 1, loom.undoCount());
        Check.fails("empty", Check.RANGE, () -> loom.execute());
        Check.same("replaced", 0, loom.faultPosition());
        Check.fails("faults change nothing", Check.RANGE, () -> Check.execute(loom, "light 0;weave 1;x"));
        Check.no("not lit", loom.isLit(0));
        Check.same("replaced", 16, loom.faultPosition());
    }

    private static void allOrNone() {
        CandleLoom loom = Check.lit(3, 32769, 50);
        loom.weave(5);
        loom.knot(1, 1);
        int changes = loom.undoCount();
        Check.failsAt(loom, "knot 2 2;weave 6;mend l;wax 0 1;wick 1 1 1;light 1;snuff 2", 6, 8);
        Check.same("rows", 5, loom.rowCount());
        Check.same("knots", 1, loom.knotCount());
        Check.same("wicks", 1, loom.wickCount());
        Check.same("lit", 1, loom.litCount());
        Check.same("wax", 45, loom.wax(0));
        Check.same("burn", 1, loom.burn('l'));
        Check.same("right burn", 1, loom.burn('r'));
        Check.same("heat", 0, loom.heat('r'));
        Check.same("woven", 5, loom.wovenTotal());
        Check.same("wax used", 5, loom.waxUsed());
        Check.same("changes", changes, loom.undoCount());
        Check.same("the buffer is empty afterwards", 1, loom.feed('w'));
        Check.same("the next text", 1, Check.execute(loom, "eave 1"));
        Check.same("one change", changes + 1, loom.undoCount());
    }

    private static void causes() {
        CandleLoom loom = Check.lit(3, 3, 99, 3, 2, 1);
        loom.addWick(1, 1, 0);
        Check.failsAt(loom, "light 0", 0, 5);
        Check.failsAt(loom, "snuff 2", 0, 5);
        Check.failsAt(loom, "light 2", 0, 6);
        Check.failsAt(loom, "wax 0 1", 0, 1);
        Check.failsAt(loom, "snuff 0;snuff 1;weave 1", 2, 2);
        Check.failsAt(loom, "weave 1;ravel 2", 1, 4);
        Check.failsAt(loom, "weave 1;repeat 2 1", 1, 4);
        Check.failsAt(loom, "weave 2;knot 1 0;ravel 1", 2, 3);
        Check.failsAt(loom, "weave 5;repeat 5 8", 1, 1);
        Check.failsAt(loom, "weave 1;knot 0 0;knot 0 0", 2, 5);
        Check.failsAt(loom, "weave 1;untie 0 0", 1, 5);
        Check.failsAt(loom, "mend r", 0, 5);
        Check.failsAt(loom, "light 3", 0, 8);
        Check.failsAt(loom, "wax 3 0", 0, 8);
        Check.failsAt(loom, "wax 0 0", 0, 8);
        Check.failsAt(loom, "wax 0 51", 0, 8);
        Check.failsAt(loom, "weave 0", 0, 8);
        Check.failsAt(loom, "weave 11", 0, 8);
        Check.failsAt(loom, "weave 1;ravel 11", 1, 8);
        Check.failsAt(loom, "repeat 21 1", 0, 8);
        Check.failsAt(loom, "repeat 1 0", 0, 8);
        Check.failsAt(loom, "weave 1;knot 1 0", 1, 8);
        Check.failsAt(loom, "weave 1;untie 0 16", 1, 8);
        Check.same("nothing woven", 0, loom.wovenTotal());
    }

    private static void latestDenial() {
        CandleLoom loom = new CandleLoom();
        Check.fails("number", Check.NONE, () -> loom.denial());
        Check.fails("detail", Check.NONE, () -> loom.denialDetail());
        Check.fails("cause", Check.NONE, () -> loom.denialCause());
        Check.fails("other exceptions are no denials", Check.RANGE, () -> loom.weave(0));
        Check.fails("nothing denied", Check.NONE, () -> loom.denial());
        Check.fails("an index is no denial", Check.INDEX, () -> loom.light(0));
        Check.fails("nothing denied", Check.NONE, () -> loom.denialDetail());
        Check.failsAt(loom, "weave 1", 0, 2);
        Check.denied("no cause any more", loom, 2, 0, () -> loom.weave(1));
        loom.addWick(1, 1, 1);
        Check.same("kept after a change", 2, loom.denial());
        Check.same("the detail of then", 0, loom.denialDetail());
        loom.undo();
        loom.saveSnapshot();
        Check.denied("newer", loom, 4, 0, () -> loom.ravel(1));
        loom.restoreSnapshot();
        Check.same("kept by snapshots", 4, loom.denial());
        Check.failsAt(loom, "wick 0 1 1;light 0;light 0", 2, 5);
        Check.fails("a fault", Check.RANGE, () -> loom.execute());
        Check.same("kept after a fault", 5, loom.denialCause());
    }

    private static void writeRow() {
        CandleLoom loom = new CandleLoom();
        Check.fails("no row", Check.INDEX, () -> loom.writeRow(0));
        loom.addWick(3, 1 | 2 | 16 | 1024 | 2048 | 4096 | 8192, 9);
        loom.light(0);
        loom.weave(2);
        loom.knot(1, 4);
        loom.knot(1, 5);
        Check.same("length", 18, loom.writeRow(1));
        Check.same("the example", "3:xx..Xo....xxxx..", Check.line(loom, 18));
        Check.same("the other row", 18, loom.writeRow(0));
        Check.same("without knots", "3:xx..x.....xxxx..", Check.line(loom, 18));
        loom.addWick(7, 32768 | 1, 20);
        loom.light(1);
        loom.weave(1);
        loom.writeRow(2);
        Check.same("a third row", "7:.x..x.....xxxx.x", Check.line(loom, 18));
        loom.undo();
        loom.writeRow(0);
        Check.fails("row -1", Check.INDEX, () -> loom.writeRow(-1));
        Check.fails("row 2", Check.INDEX, () -> loom.writeRow(2));
        Check.same("the line stays", "3:xx..x.....xxxx..", Check.line(loom, 18));
        loom.undo();
        Check.same("undo leaves the line", "3:xx..x.....xxxx..", Check.line(loom, 18));
        Check.fails("index -1", Check.INDEX, () -> loom.lineCharacter(-1));
        Check.fails("index 18", Check.INDEX, () -> loom.lineCharacter(18));
    }

    private static void writeWicks() {
        CandleLoom loom = new CandleLoom();
        Check.same("empty", 0, loom.writeWicks());
        Check.fails("nothing in it", Check.INDEX, () -> loom.lineCharacter(0));
        loom.addWick(3, 1, 12);
        loom.addWick(0, 1, 0);
        loom.light(0);
        Check.same("length", 10, loom.writeWicks());
        Check.same("the example", "*3=12,-0=0", Check.line(loom, 10));
        loom.weave(1);
        Check.same("the line stays", "*3=12,-0=0", Check.line(loom, 10));
        loom.writeRow(0);
        Check.same("replaced by a row", "3:x...............", Check.line(loom, 18));
        for (int i = 2; i < 8; i++) {
            loom.addWick(i, 1, 9 + i * 15 - (i == 7 ? 15 : 0));
        }
        Check.same("all", 46, loom.writeWicks());
        Check.same("all wicks", "*3=11,-0=0,-2=39,-3=54,-4=69,-5=84,-6=99,-7=99", Check.line(loom, 46));
        CandleLoom none = new CandleLoom();
        none.addWick(1, 1, 10);
        none.writeWicks();
        none.undo();
        Check.same("the line is not undone", "-1=10", Check.line(none, 5));
        Check.same("empty again", 0, none.writeWicks());
        Check.fails("empty line", Check.INDEX, () -> none.lineCharacter(0));
    }
}
