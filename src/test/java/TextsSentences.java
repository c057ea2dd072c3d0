/** Promises 41 to 49. */
final class TextsSentences extends Sentences {
    private static final String NOTHING_DENIED = "Throws `NoSuchElementException` if nothing was denied yet";

    static void all() {
        feed();
        execute();
        executeFaults();
        faultPosition();
        writeRow();
        writeWicks();
        lineCharacter();
        denial();
        denialDetail();
        denialCause();
    }

    private static void feed() {
        sentence(41, "Appends a character to the text buffer.", () -> {
            CandleLoom loom = Check.lit(0, 2, 99);
            for (char character : "weave 12".toCharArray()) {
                loom.feed(character);
            }
            Check.failsAt(loom, "", 0, 8);
            for (char character : "weave 3;weave 5".toCharArray()) {
                loom.feed(character);
            }
            is(2, loom.execute());
            is(8, loom.rowCount());
        });
        sentence(41, "`character`: any character", () -> {
            for (char character : new char[] {0, ' ', '\n', '"', 127, 128, 255, 256, 0xd800, 0xffff}) {
                CandleLoom loom = new CandleLoom();
                is(1, loom.feed(character));
                is(2, loom.feed(character));
                refuses(RANGE, () -> loom.execute());
                is(0, loom.faultPosition());
            }
        });
        sentence(41, "Returns the length of the buffer afterwards.", () -> {
            CandleLoom loom = new CandleLoom();
            for (int length = 1; length <= 60; length++) {
                is(length, loom.feed('x'));
            }
            refuses(RANGE, () -> loom.execute());
            is(1, loom.feed('x'));
        });
        sentence(41, "Throws `IllegalStateException` if the buffer has 60 characters", () -> {
            CandleLoom loom = Check.cloth(2);
            String match = "weave 09;ravel 09;weave 02;repeat 01 1;knot 00 0;untie 00 0";
            is(59, match.length());
            Check.feed(loom, match);
            is(60, loom.feed('0'));
            refuses(STATE, () -> loom.feed('0'));
            refuses(STATE, () -> loom.feed(';'));
            refuses(STATE, () -> loom.feed((char) 0));
            is(6, loom.execute());
            is(4, loom.rowCount());
            is(1, loom.feed('w'));
        });
    }

    private static CandleLoom executed() {
        CandleLoom loom = new CandleLoom();
        is(5, Check.execute(loom, "wick 3 32769 30;light 0;weave 7;mend r;knot 6 1"));
        return loom;
    }

    private static void none(CandleLoom loom, String text, int command, int cause) {
        String before = Picture.of(loom);
        Check.failsAt(loom, text, command, cause);
        is(before, Picture.of(loom));
    }

    private static void execute() {
        sentence(42, "Parses the text buffer and executes its commands in their order, either all of them or "
                + "none.", () -> {
            CandleLoom loom = executed();
            is(7, loom.rowCount());
            is(1, loom.burn('l'));
            is(0, loom.burn('r'));
            is(0, loom.heat('r'));
            yes(loom.isKnotted(6, 1));
            none(executed(), "untie 6 1;ravel 3;mend l;wax 0 9;snuff 0;wick 1 2 3;mend l", 6, 5);
            none(executed(), "weave 9;repeat 4 4;weave 9;snuff 0", 2, 1);
            // Other rows would take the place of the last ones.
            CandleLoom two = executed();
            two.light(two.addWick(6, 96, 99));
            none(two, "untie 6 1;ravel 5;snuff 0;weave 5;knot 2 2;weave 1;ravel 0", 6, 8);
        });
        sentence(42, "The buffer is empty afterwards, even if an exception is thrown.", () -> {
            CandleLoom loom = wicks(1);
            Check.execute(loom, "light 0");
            is(1, loom.feed('w'));
            refuses(RANGE, () -> loom.execute());
            is(1, loom.feed('w'));
            Check.feed(loom, "eave 0");
            refuses(DENIED, () -> loom.execute());
            is(1, loom.feed('s'));
            Check.feed(loom, "nuff 0");
            is(1, loom.execute());
            refuses(RANGE, () -> loom.execute());
            is(0, loom.faultPosition());
            is(0, loom.litCount());
        });
        sentence(42, "Returns the number of commands.", () -> {
            CandleLoom loom = Check.lit(0, 2, 99);
            is(1, Check.execute(loom, "weave 9"));
            StringBuilder text = new StringBuilder("snuff 0");
            for (int count = 2; count <= 7; count++) {
                text.append(count % 2 == 0 ? ";light 0" : ";snuff 0");
                is(count, Check.execute(loom, text.toString()));
                if (!loom.isLit(0)) {
                    loom.light(0);
                }
            }
            CandleLoom mended = burnt(4, 4);
            is(8, Check.execute(mended, "mend l;mend r;mend l;mend r;mend l;mend r;mend l;mend r"));
            is(0, mended.burn('r'));
        });
    }

    private static void executeFaults() {
        sentence(42, "Throws `IllegalArgumentException` if the buffer does not match the grammar; the fault position "
                + "is kept", () -> {
            CandleLoom loom = wicks(1);
            refuses(RANGE, () -> loom.execute());
            is(0, loom.faultPosition());
            refuses(RANGE, () -> Check.execute(loom, "light 0;light 0;"));
            is(16, loom.faultPosition());
            is(0, loom.litCount());
            refuses(NONE, () -> loom.denial());
            refuses(RANGE, () -> Check.execute(loom, "weave 100"));
            is(8, loom.faultPosition());
            is(1, loom.undoCount());
        });
        sentence(42, "Throws `UnsupportedOperationException` if denied: 7", () -> {
            CandleLoom loom = new CandleLoom();
            Check.failsAt(loom, "weave 1", 0, 2);
            Check.failsAt(loom, "wick 1 1 1;light 0;weave 1;light 0", 3, 6);
            Check.failsAt(loom, "wick 8 1 1", 0, 8);
            Check.failsAt(loom, "wick 7 1 1;knot 0 0", 1, 8);
            is(0, loom.wickCount());
            is(0, loom.wovenTotal());
            is(0, loom.undoCount());
        });
    }

    private static void faultPosition() {
        sentence(43, "Returns the fault position that was kept last.", () -> {
            CandleLoom loom = wicks(1);
            refuses(RANGE, () -> Check.execute(loom, "light x"));
            is(6, loom.faultPosition());
            Check.execute(loom, "light 0");
            is(6, loom.faultPosition());
            Check.failsAt(loom, "light 0", 0, 5);
            is(6, loom.faultPosition());
            refuses(RANGE, () -> Check.execute(loom, "l"));
            is(1, loom.faultPosition());
            is(1, loom.faultPosition());
        });
        sentence(43, "Returns the fault position.", () -> {
            CandleLoom loom = new CandleLoom();
            refuses(RANGE, () -> loom.execute());
            is(0, loom.faultPosition());
            String text = "mend l;".repeat(7) + "mend l;wax ";
            Check.feed(loom, text);
            refuses(RANGE, () -> loom.execute());
            is(60, loom.faultPosition());
        });
        sentence(43, "Throws `NoSuchElementException` if none was kept yet", () -> {
            CandleLoom loom = wicks(1);
            refuses(NONE, () -> loom.faultPosition());
            Check.execute(loom, "light 0");
            refuses(NONE, () -> loom.faultPosition());
            Check.failsAt(loom, "light 0", 0, 5);
            refuses(NONE, () -> loom.faultPosition());
            loom.feed('#');
            refuses(NONE, () -> loom.faultPosition());
            refuses(RANGE, () -> loom.execute());
            is(0, loom.faultPosition());
        });
    }

    private static void writeRow() {
        sentence(44, "Writes a row as the output line, which replaces the previous one: its colour, \":\" and for each "
                + "column \"X\" if it is raised and knotted, \"x\" if it is raised, \"o\" if it is knotted, and \".\" "
                + "otherwise.", () -> {
            CandleLoom loom = Check.lit(7, 1 + 2 + 16384 + 32768, 9);
            loom.weave(6);
            loom.writeRow(0);
            is("7:xx............xx", Check.line(loom, 18));
            loom.knot(5, 0);
            loom.knot(5, 1);
            loom.knot(5, 2);
            loom.knot(5, 14);
            loom.knot(5, 15);
            loom.writeRow(5);
            is("7:oXo...........Xo", Check.line(loom, 18));
            loom.writeRow(4);
            loom.knot(4, 3);
            is("7:xx............xx", Check.line(loom, 18));
            loom.untie(4, 3);
            loom.writeWicks();
            is("*7=3", Check.line(loom, 4));
            loom.writeRow(4);
            is("7:xx............xx", Check.line(loom, 18));
        });
        sentence(44, "Example: \"3:xx..Xo....xxxx..\".", () -> {
            CandleLoom loom = Check.lit(3, 1 + 2 + 16 + 1024 + 2048 + 4096 + 8192, 9);
            loom.weave(1);
            loom.knot(0, 4);
            loom.knot(0, 5);
            loom.writeRow(0);
            is("3:xx..Xo....xxxx..", Check.line(loom, 18));
        });
        sentence(44, "`row`: the index of the row", () -> {
            CandleLoom loom = woven(39);
            loom.light(loom.addWick(0, 2, 99));
            loom.weave(1);
            loom.writeRow(0);
            is("3:.xx.............", Check.line(loom, 18));
            loom.writeRow(39);
            is("0:..x.............", Check.line(loom, 18));
        });
        sentence(44, "Returns the length of the line.", () -> {
            CandleLoom loom = Check.lit(0, 65535, 9);
            loom.weave(1);
            is(18, loom.writeRow(0));
            is('x', loom.lineCharacter(17));
            refuses(INDEX, () -> loom.lineCharacter(18));
            is(18, loom.writeRow(0));
        });
        sentence(44, "Throws `IndexOutOfBoundsException` if there is no such row", () -> {
            refusesRowsThatAreNot((loom, row) -> loom.writeRow(row));
            CandleLoom loom = woven(1);
            loom.writeWicks();
            refuses(INDEX, () -> loom.writeRow(1));
            is("*3=98", Check.line(loom, 5));
        });
    }

    private static void writeWicks() {
        sentence(45, "Writes the wicks as the output line, which replaces the previous one: for each wick \"*\" if it "
                + "is lit and \"-\" otherwise, its colour, \"=\" and its wax, with \",\" between two wicks.", () -> {
            CandleLoom loom = new CandleLoom();
            loom.addWick(7, 1, 9);
            loom.writeWicks();
            is("-7=9", Check.line(loom, 4));
            loom.light(0);
            loom.addWick(0, 1, 10);
            loom.writeWicks();
            is("*7=9,-0=10", Check.line(loom, 10));
            loom.light(1);
            loom.weave(9);
            is("*7=9,-0=10", Check.line(loom, 10));
            loom.writeWicks();
            is("-7=0,*0=1", Check.line(loom, 9));
            loom.writeRow(0);
            loom.writeWicks();
            is("-7=0,*0=1", Check.line(loom, 9));
        });
        sentence(45, "The line of a loom without wicks is empty.", () -> {
            CandleLoom loom = new CandleLoom();
            is(0, loom.writeWicks());
            refuses(INDEX, () -> loom.lineCharacter(0));
            loom.addWick(1, 1, 1);
            is(4, loom.writeWicks());
            loom.undo();
            is(4, Check.line(loom, 4).length());
            is(0, loom.writeWicks());
            refuses(INDEX, () -> loom.lineCharacter(0));
        });
        sentence(45, "Example: \"*3=12,-0=0\".", () -> {
            CandleLoom loom = Check.lit(3, 1, 12);
            loom.addWick(0, 1, 0);
            loom.writeWicks();
            is("*3=12,-0=0", Check.line(loom, 10));
        });
        sentence(45, "Returns the length of the line.", () -> {
            CandleLoom loom = new CandleLoom();
            for (int count = 1; count <= 8; count++) {
                loom.addWick(count - 1, 1, 99);
                is(6 * count - 1, loom.writeWicks());
                is('9', loom.lineCharacter(6 * count - 2));
            }
            is("-0=99,-1=99,-2=99,-3=99,-4=99,-5=99,-6=99,-7=99", Check.line(loom, 47));
        });
    }

    private static void lineCharacter() {
        sentence(46, "Returns a character of the output line, which is initially empty.", () -> {
            CandleLoom loom = new CandleLoom();
            refuses(INDEX, () -> loom.lineCharacter(0));
            loom.addWick(4, 1, 57);
            refuses(INDEX, () -> loom.lineCharacter(0));
            loom.writeWicks();
            is('4', loom.lineCharacter(1));
            is('4', loom.lineCharacter(1));
        });
        sentence(46, "`index`: the index, from 0", () -> {
            CandleLoom loom = woven(1);
            loom.writeRow(0);
            is('3', loom.lineCharacter(0));
            is(':', loom.lineCharacter(1));
            is('.', loom.lineCharacter(2));
            is('x', loom.lineCharacter(3));
            is('.', loom.lineCharacter(17));
        });
        sentence(46, "Returns the character.", () -> {
            CandleLoom loom = new CandleLoom();
            loom.addWick(4, 1, 57);
            loom.writeWicks();
            is('-', loom.lineCharacter(0));
            is('4', loom.lineCharacter(1));
            is('=', loom.lineCharacter(2));
            is('5', loom.lineCharacter(3));
            is('7', loom.lineCharacter(4));
        });
        sentence(46, "Throws `IndexOutOfBoundsException` if there is no such index", () -> {
            CandleLoom loom = woven(1);
            for (int length : new int[] {18, 5}) {
                is(length, length == 18 ? loom.writeRow(0) : loom.writeWicks());
                refuses(INDEX, () -> loom.lineCharacter(-1));
                refuses(INDEX, () -> loom.lineCharacter(length));
                refuses(INDEX, () -> loom.lineCharacter(LEAST));
                refuses(INDEX, () -> loom.lineCharacter(GREATEST));
            }
        });
    }

    private static void denial() {
        sentence(47, "Returns the number of the latest denial.", () -> {
            CandleLoom loom = wicks(8);
            refuses(DENIED, () -> loom.weave(1));
            is(2, loom.denial());
            refuses(DENIED, () -> loom.ravel(1));
            is(4, loom.denial());
            is(4, loom.denial());
        });
        sentence(47, "Returns the number, 1 to 7.", () -> {
            CandleLoom loom = Check.lit(0, 2, 1);
            loom.addWick(0, 2, 99);
            loom.weave(1);
            loom.knot(0, 0);
            refuses(DENIED, () -> loom.addWax(1, 1));
            is(1, loom.denial());
            refuses(DENIED, () -> loom.weave(1));
            is(2, loom.denial());
            refuses(DENIED, () -> loom.ravel(1));
            is(3, loom.denial());
            refuses(DENIED, () -> loom.ravel(2));
            is(4, loom.denial());
            refuses(DENIED, () -> loom.snuff(0));
            is(5, loom.denial());
            refuses(DENIED, () -> loom.light(0));
            is(6, loom.denial());
            refuses(DENIED, () -> Check.execute(loom, "light 0"));
            is(7, loom.denial());
        });
        sentence(47, NOTHING_DENIED, () -> {
            CandleLoom loom = notDenied();
            refuses(NONE, () -> loom.denial());
            refuses(DENIED, () -> loom.light(0));
            is(5, loom.denial());
        });
    }

    /** A loom to which other exceptions came, and calls that were not denied. */
    private static CandleLoom notDenied() {
        CandleLoom loom = wicks(1);
        refuses(NONE, () -> loom.denial());
        refuses(RANGE, () -> loom.weave(0));
        refuses(INDEX, () -> loom.light(1));
        refuses(RANGE, () -> loom.execute());
        refuses(NONE, () -> loom.period());
        refuses(STATE, () -> loom.restoreSnapshot());
        refuses(NO_ROWS, () -> loom.meanRaised());
        Check.execute(loom, "light 0");
        loom.weave(1);
        return loom;
    }

    private static void denialDetail() {
        sentence(48, "Returns the detail of the latest denial.", () -> {
            CandleLoom loom = wicks(8);
            refuses(DENIED, () -> loom.weave(1));
            is(8, loom.denialDetail());
            refuses(DENIED, () -> loom.ravel(1));
            is(0, loom.denialDetail());
        });
        sentence(48, "Returns the detail.", () -> {
            CandleLoom loom = wicks(3);
            loom.addWick(0, 1, 0);
            refuses(DENIED, () -> loom.light(3));
            is(3, loom.denialDetail());
            loom.addWax(3, 50);
            refuses(DENIED, () -> loom.addWax(3, 50));
            is(99, loom.denialDetail());
            refuses(DENIED, () -> Check.execute(loom, "light 1;light 2;light 1"));
            is(2, loom.denialDetail());
        });
        sentence(48, NOTHING_DENIED, () -> {
            CandleLoom loom = notDenied();
            refuses(NONE, () -> loom.denialDetail());
            refuses(DENIED, () -> loom.light(0));
            is(1, loom.denialDetail());
        });
    }

    private static void denialCause() {
        sentence(49, "Returns the number of the cause of the latest denial.", () -> {
            CandleLoom loom = wicks(2);
            Check.failsAt(loom, "light 0;light 0", 1, 5);
            Check.failsAt(loom, "weave 1", 0, 2);
            is(2, loom.denialCause());
            is(7, loom.denial());
        });
        sentence(49, "Returns the number, 1 to 6 or 8.", () -> {
            CandleLoom loom = wicks(2);
            loom.addWick(0, 1, 0);
            Check.failsAt(loom, "wax 0 50;wax 0 50", 1, 1);
            Check.failsAt(loom, "weave 1", 0, 2);
            Check.failsAt(loom, "light 0;weave 2;knot 0 0;ravel 2", 3, 3);
            Check.failsAt(loom, "repeat 1 1", 0, 4);
            Check.failsAt(loom, "mend r", 0, 5);
            Check.failsAt(loom, "light 2", 0, 6);
            Check.failsAt(loom, "repeat 0 1", 0, 8);
            Check.failsAt(loom, "light 3", 0, 8);
        });
        sentence(49, NOTHING_DENIED + ", or the latest denial has no cause", () -> {
            CandleLoom loom = notDenied();
            refuses(NONE, () -> loom.denialCause());
            refuses(DENIED, () -> loom.light(0));
            refuses(NONE, () -> loom.denialCause());
            Check.failsAt(loom, "light 0", 0, 5);
            is(5, loom.denialCause());
            refuses(DENIED, () -> loom.light(0));
            refuses(NONE, () -> loom.denialCause());
        });
    }
}
