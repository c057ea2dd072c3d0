import java.util.List;
import java.util.Set;

/** What the document says of texts before its promises. */
final class GrammarSentences extends Sentences {
    static void all() {
        buffer();
        text();
        wick();
        lightAndSnuff();
        wax();
        weaveAndRavel();
        repeat();
        knotAndUntie();
        mend();
        parts();
        methods();
        faults();
    }

    private static void matches(String... texts) {
        for (String text : texts) {
            CandleLoom loom = new CandleLoom();
            Check.feed(loom, text);
            String thrown = "nothing";
            try {
                loom.execute();
            } catch (UnsupportedOperationException e) {
                thrown = "nothing";
            } catch (IllegalArgumentException e) {
                thrown = "a fault in '" + text + "'";
            }
            is("nothing", thrown);
            refuses(NONE, () -> loom.faultPosition());
        }
    }

    private static void fault(String text, int position) {
        CandleLoom loom = new CandleLoom();
        Check.feed(loom, text);
        refuses(RANGE, () -> loom.execute());
        is(position, loom.faultPosition());
    }

    /** A text that is right, and wrong wherever another character stands or where it goes on with it. */
    private static void exactly(String text) {
        matches(text);
        for (char wrong : new char[] {'#', ';', ' ', 0, (char) (text.charAt(0) + 256), 'W', '-'}) {
            for (int i = 0; i < text.length(); i++) {
                if (wrong != text.charAt(i) && !isDelimiterAfterDigit(text, i, wrong)) {
                    fault(text.substring(0, i) + wrong + text.substring(i + 1), i);
                }
            }
            if (wrong != ';') {
                fault(text + wrong, text.length());
            }
        }
    }

    /** After a digit where more may follow, a space or a semicolon can stand as well. */
    private static boolean isDelimiterAfterDigit(String text, int i, char wrong) {
        return (wrong == ' ' || wrong == ';') && i > 0 && Character.isDigit(text.charAt(i - 1));
    }

    private static void buffer() {
        sentence(TERMS, "The text buffer holds at most 60 characters.", () -> {
            CandleLoom loom = new CandleLoom();
            for (int i = 1; i <= 60; i++) {
                is(i, loom.feed(';'));
            }
            refuses(STATE, () -> loom.feed(';'));
            refuses(STATE, () -> loom.feed('w'));
            refuses(RANGE, () -> loom.execute());
            is(1, loom.feed('w'));
            CandleLoom whole = woven(2);
            String text = "knot 0 10;knot 0 11;knot 0 12;knot 0 13;untie 0 13;knot 1 15";
            is(60, text.length());
            is(6, Check.execute(whole, text));
            yes(whole.isKnotted(1, 15));
        });
    }

    private static void text() {
        sentence(TERMS, "A text matches this grammar, with terminals in double quotes; a space in a terminal is "
                + "exactly one space:", () -> {
            for (String text : List.of("wick 1 2 3", "light 0", "snuff 0", "wax 1 2", "weave 1", "ravel 1",
                    "repeat 1 2", "knot 1 2", "untie 1 2", "mend l")) {
                exactly(text);
                fault(" " + text, 0);
                fault(text + " ", text.length());
                for (int i = 0; i < text.length(); i++) {
                    if (text.charAt(i) == ' ') {
                        fault(text.substring(0, i) + " " + text.substring(i), i + 1);
                        fault(text.substring(0, i) + "\t" + text.substring(i + 1), i);
                    }
                }
                fault(text.replaceFirst(" ", ""), text.indexOf(' '));
                fault(text.toUpperCase(), 0);
            }
        });
        sentence(TERMS, "text: command { \";\" command }", () -> {
            matches("weave 1", "weave 1;ravel 1", "mend l;mend l;mend l;mend l;mend l;mend l;mend l;mend l");
            fault("", 0);
            fault(";", 0);
            fault(";weave 1", 0);
            fault("weave 1;", 8);
            fault("weave 1;;weave 1", 8);
            fault("weave 1;ravel 1;", 16);
            fault("weave 1; ravel 1", 8);
            fault("weave 1 ;ravel 1", 7);
            fault("weave 1,ravel 1", 7);
            fault("weave 1:ravel 1", 7);
            fault("weave 1\n", 7);
            fault("mend lmend l", 6);
        });
    }

    private static void wick() {
        sentence(TERMS, "\"wick \" digit \" \" mask \" \" number", () -> {
            matches("wick 0 0 0", "wick 9 99999 99", "wick 7 12 1", "wick 1 00001 00");
            fault("wick", 4);
            fault("wick ", 5);
            fault("wick 1", 6);
            fault("wick 1 ", 7);
            fault("wick 1 2", 8);
            fault("wick 1 2 ", 9);
            fault("wick 10 2 3", 6);
            fault("wick 1 123456 3", 12);
            fault("wick 1 2 345", 11);
            fault("wick 1 2 3 4", 10);
            fault("wick 1 2 34 5", 11);
            fault("wick -1 2 3", 5);
            fault("wick 1 -2 3", 7);
            fault("wick 1 2 -3", 9);
            fault("wick 1 2;light 0", 8);
        });
    }

    private static void lightAndSnuff() {
        sentence(TERMS, "\"light \" digit", () -> oneDigit("light "));
        sentence(TERMS, "\"snuff \" digit", () -> oneDigit("snuff "));
    }

    private static void oneDigit(String word) {
        for (char digit = '0'; digit <= '9'; digit++) {
            matches(word + digit);
        }
        fault(word, 6);
        fault(word + "10", 7);
        fault(word + "00", 7);
        fault(word + "1 1", 7);
        fault(word + "/", 6);
        fault(word + ":", 6);
        fault(word + "-1", 6);
    }

    private static void wax() {
        sentence(TERMS, "\"wax \" digit \" \" number", () -> {
            matches("wax 0 0", "wax 9 99", "wax 1 01");
            fault("wax ", 4);
            fault("wax 1", 5);
            fault("wax 1 ", 6);
            fault("wax 12 3", 5);
            fault("wax 1 234", 8);
            fault("wax 1 2 3", 7);
            fault("wax 1 -2", 6);
            fault("wax 1;wax 1 2", 5);
        });
    }

    private static void weaveAndRavel() {
        sentence(TERMS, "\"weave \" number", () -> oneNumber("weave "));
        sentence(TERMS, "\"ravel \" number", () -> oneNumber("ravel "));
    }

    private static void oneNumber(String word) {
        matches(word + "0", word + "9", word + "10", word + "99", word + "00");
        fault(word.trim(), 5);
        fault(word, 6);
        fault(word + "100", 8);
        fault(word + "001", 8);
        fault(word + "1 1", 7);
        fault(word + "10 1", 8);
        fault(word + "x", 6);
        fault(word + "+1", 6);
    }

    private static void repeat() {
        sentence(TERMS, "\"repeat \" number \" \" digit", () -> {
            matches("repeat 0 0", "repeat 1 9", "repeat 99 9", "repeat 01 1");
            fault("repeat ", 7);
            fault("repeat 1", 8);
            fault("repeat 12", 9);
            fault("repeat 12 ", 10);
            fault("repeat 123 1", 9);
            fault("repeat 1 12", 10);
            fault("repeat 12 01", 11);
            fault("repeat 1 1 1", 10);
        });
    }

    private static void knotAndUntie() {
        sentence(TERMS, "\"knot \" number \" \" number", () -> twoNumbers("knot "));
        sentence(TERMS, "\"untie \" number \" \" number", () -> twoNumbers("untie "));
    }

    private static void twoNumbers(String word) {
        int start = word.length();
        matches(word + "0 0", word + "39 15", word + "99 99", word + "00 00", word + "1 15", word + "10 1");
        fault(word, start);
        fault(word + "1", start + 1);
        fault(word + "12", start + 2);
        fault(word + "12 ", start + 3);
        fault(word + "123 1", start + 2);
        fault(word + "1 123", start + 4);
        fault(word + "12 123", start + 5);
        fault(word + "1 1 1", start + 3);
        fault(word + "1;1", start + 1);
        fault(word + "-1 1", start);
    }

    private static void mend() {
        sentence(TERMS, "\"mend \" side", () -> {
            matches("mend l", "mend r");
            fault("mend", 4);
            fault("mend ", 5);
            fault("mend 1", 5);
            fault("mend lr", 6);
            fault("mend l r", 6);
        });
    }

    private static void parts() {
        sentence(TERMS, "mask: one to five digits", () -> {
            matches("wick 1 0 1", "wick 1 12 1", "wick 1 123 1", "wick 1 1234 1", "wick 1 12345 1");
            fault("wick 1  1", 7);
            fault("wick 1 x 1", 7);
            fault("wick 1 123456 1", 12);
            fault("wick 1 000001 1", 12);
            CandleLoom loom = new CandleLoom();
            Check.execute(loom, "wick 1 65535 1;wick 1 00001 1;light 0");
            is(65535, loom.nextMask());
            Check.execute(loom, "light 1");
            is(65534, loom.nextMask());
            Check.failsAt(loom, "wick 1 65536 1", 0, 8);
            Check.failsAt(loom, "wick 1 99999 1", 0, 8);
            Check.failsAt(loom, "wick 1 00000 1", 0, 8);
        });
        sentence(TERMS, "number: one or two digits", () -> {
            matches("weave 1", "weave 01", "weave 10");
            fault("weave ", 6);
            fault("weave ;", 6);
            fault("weave 010", 8);
            CandleLoom loom = Check.lit(0, 2, 99);
            is(1, Check.execute(loom, "weave 10"));
            is(10, loom.rowCount());
            is(1, Check.execute(loom, "weave 01"));
            is(11, loom.rowCount());
            Check.failsAt(loom, "weave 11", 0, 8);
            Check.failsAt(loom, "weave 00", 0, 8);
        });
        sentence(TERMS, "side: \"l\" | \"r\"", () -> {
            matches("mend l", "mend r");
            for (char side = 0; side < 256; side++) {
                if (side != 'l' && side != 'r') {
                    fault("mend " + side, 5);
                }
            }
            fault("mend " + (char) ('l' + 256), 5);
        });
    }

    private static void methods() {
        sentence(TERMS, "The commands correspond to the methods addWick, light, snuff, addWax, weave, ravel, "
                + "repeatLast, knot, untie and mend, with the parameters in the same order.", () -> {
            same("wick 5 24577 12;light 2", loom -> {
                loom.addWick(5, 24577, 12);
                loom.light(2);
            });
            same("light 1", loom -> loom.light(1));
            same("snuff 0", loom -> loom.snuff(0));
            same("wax 1 12", loom -> loom.addWax(1, 12));
            same("weave 3", loom -> loom.weave(3));
            same("ravel 2", loom -> loom.ravel(2));
            same("repeat 1 2", loom -> loom.repeatLast(1, 2));
            same("repeat 2 1", loom -> loom.repeatLast(2, 1));
            same("knot 3 5", loom -> loom.knot(3, 5));
            same("untie 1 2", loom -> loom.untie(1, 2));
            same("mend l", loom -> loom.mend('l'));
            same("mend r", loom -> loom.mend('r'));
        });
    }

    /** A loom for which each command makes a difference of its own. */
    private static CandleLoom rich() {
        CandleLoom loom = Check.lit(3, 32771, 60);
        loom.addWick(4, 6, 20);
        loom.weave(10);
        loom.weave(2);
        loom.ravel(7);
        loom.light(1);
        loom.weave(1);
        loom.snuff(1);
        loom.knot(1, 2);
        loom.knot(2, 1);
        return loom;
    }

    private static void same(String text, java.util.function.Consumer<CandleLoom> calls) {
        CandleLoom byText = rich();
        CandleLoom byCalls = rich();
        String before = Picture.of(byText);
        Check.execute(byText, text);
        calls.accept(byCalls);
        byText.writeWicks();
        byCalls.writeWicks();
        // How many changes there are differs, if the text has two commands.
        String picture = Picture.of(byText).replaceAll("undo [0-9]", "");
        is(Picture.of(byCalls).replaceAll("undo [0-9]", ""), picture);
        no(picture.equals(before.replaceAll("undo [0-9]", "")));
    }

    private static void faults() {
        sentence(TERMS, "The fault position of a text is the index of the first character that cannot continue any "
                + "such text, or the length of the text if it ends too early.", () -> {
            fault("", 0);
            fault("x", 0);
            fault("w", 1);
            fault("wx", 1);
            fault("wo", 1);
            fault("wax", 3);
            fault("wac", 2);
            fault("wia", 2);
            fault("wex", 2);
            fault("wick", 4);
            fault("r", 1);
            fault("re", 2);
            fault("rev", 2);
            fault("rap", 2);
            fault("ri", 1);
            fault("weave 1;rx", 9);
            fault("weave 1;w", 9);
            fault("weave x;y", 6);
            fault("weave " + (char) 0x130, 6);
            fault("weave " + (char) 0x661, 6);
            fault("" + (char) ('w' + 256), 0);
            String text = "wick 1 23456 78;light 0;snuff 1;mend l";
            Set<Integer> whole = Set.of(14, 15, 23, 31, 38);
            for (int length = 0; length <= text.length(); length++) {
                if (!whole.contains(length)) {
                    fault(text.substring(0, length), length);
                }
                fault(text.substring(0, length) + "#", length);
            }
            // A fault ahead of another, and of a command that would be denied.
            fault("light 0;wick 1;snuff", 14);
            String full = "mend l;".repeat(7) + "mend l;wax ";
            is(60, full.length());
            fault(full, 60);
            fault(full.substring(0, 59) + "x", 59);
        });
    }
}
