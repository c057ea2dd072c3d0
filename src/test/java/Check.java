import java.util.NoSuchElementException;

/** Counts what is not as due, and ends a test. */
final class Check {
    static final Class<?> RANGE = IllegalArgumentException.class;
    static final Class<?> INDEX = IndexOutOfBoundsException.class;
    static final Class<?> DENIED = UnsupportedOperationException.class;
    static final Class<?> NONE = NoSuchElementException.class;
    static final Class<?> STATE = IllegalStateException.class;
    static final Class<?> NO_ROWS = ArithmeticException.class;

    private static final int LONGEST_TEST_MILLIS = 300_000;

    private static int wrong;

    private Check() {
    }

    /** Ends a test in which a call does not end. */
    static void watch() {
        Thread watch = new Thread(() -> {
            try {
                Thread.sleep(LONGEST_TEST_MILLIS);
            } catch (InterruptedException e) {
                return;
            }
            System.out.println("the test does not end");
            Runtime.getRuntime().halt(1);
        });
        watch.setDaemon(true);
        watch.start();
    }

    interface Call {
        void run();
    }

    static void same(String what, Object due, Object got) {
        if (!due.equals(got)) {
            wrong++;
            System.out.println(what + ": due is " + due + ", got " + got);
        }
    }

    static void yes(String what, boolean got) {
        same(what, true, got);
    }

    static void no(String what, boolean got) {
        same(what, false, got);
    }

    static void fails(String what, Class<?> due, Call call) {
        Class<?> thrown = null;
        try {
            call.run();
        } catch (RuntimeException e) {
            thrown = e.getClass();
        }
        if (thrown != due) {
            wrong++;
            System.out.println(what + ": due is " + due + ", thrown was " + thrown);
        }
    }

    static void denied(String what, CandleLoom loom, int number, int detail, Call call) {
        fails(what, DENIED, call);
        same(what + ": number", number, loom.denial());
        same(what + ": detail", detail, loom.denialDetail());
        if (number != 7) {
            fails(what + ": cause", NONE, () -> loom.denialCause());
        }
    }

    static void feed(CandleLoom loom, String text) {
        for (int i = 0; i < text.length(); i++) {
            loom.feed(text.charAt(i));
        }
    }

    static int execute(CandleLoom loom, String text) {
        feed(loom, text);
        return loom.execute();
    }

    /** A text that does not match the grammar, with the fault at a position. */
    static void fault(String text, int position) {
        CandleLoom loom = new CandleLoom();
        fails("text '" + text + "'", RANGE, () -> execute(loom, text));
        same("fault of '" + text + "'", position, loom.faultPosition());
    }

    /** A text that matches the grammar and fails with a cause at a command. */
    static void failsAt(CandleLoom loom, String text, int command, int cause) {
        denied("text '" + text + "'", loom, 7, command, () -> execute(loom, text));
        same("cause of '" + text + "'", cause, loom.denialCause());
    }

    static String line(CandleLoom loom, int length) {
        StringBuilder line = new StringBuilder();
        for (int i = 0; i < length; i++) {
            line.append(loom.lineCharacter(i));
        }
        fails("behind the line", INDEX, () -> loom.lineCharacter(length));
        return line.toString();
    }

    /** A loom with lit wicks; colours, masks and waxes are given in threes. */
    static CandleLoom lit(int... wicks) {
        CandleLoom loom = new CandleLoom();
        for (int i = 0; i < wicks.length; i += 3) {
            loom.light(loom.addWick(wicks[i], wicks[i + 1], wicks[i + 2]));
        }
        return loom;
    }

    /** A loom whose cloth has rows with these masks, all of one colour. */
    static CandleLoom cloth(int... masks) {
        CandleLoom loom = new CandleLoom();
        for (int bit = 1; bit < 8; bit++) {
            loom.addWick(3, 1 << bit, 99);
        }
        // The last wick is lit throughout and is left out of what the masks can say.
        loom.addWick(3, 1 << 8, 99);
        loom.light(7);
        for (int mask : masks) {
            for (int bit = 1; bit < 8; bit++) {
                boolean wanted = (mask >> bit & 1) != 0;
                if (wanted != loom.isLit(bit - 1)) {
                    if (wanted) {
                        loom.light(bit - 1);
                    } else {
                        loom.snuff(bit - 1);
                    }
                }
            }
            loom.weave(1);
        }
        return loom;
    }

    static void end() {
        if (wrong > 0) {
            System.out.println(wrong + " answers are not as due");
            System.exit(1);
        }
    }
}
