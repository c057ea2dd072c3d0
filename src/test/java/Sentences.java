import java.io.IOException;
import java.io.UncheckedIOException;
import java.nio.file.Files;
import java.nio.file.Path;
import java.util.ArrayList;
import java.util.HashSet;
import java.util.List;
import java.util.Map;
import java.util.Set;
import java.util.TreeMap;

/**
 * The sentences of the document, each with a test of its own: a test quotes its sentence,
 * so that a sentence that changes, or has no test, is found.
 */
abstract class Sentences {
    /** Stands for the number of a promise where a sentence stands before the promises. */
    static final int TERMS = 0;

    static final Class<?> RANGE = Check.RANGE;
    static final Class<?> INDEX = Check.INDEX;
    static final Class<?> DENIED = Check.DENIED;
    static final Class<?> NONE = Check.NONE;
    static final Class<?> STATE = Check.STATE;
    static final Class<?> NO_ROWS = Check.NO_ROWS;

    static final int LEAST = Integer.MIN_VALUE;
    static final int GREATEST = Integer.MAX_VALUE;

    private static final String DOCUMENT = "../shared/DOC.md";
    private static final Set<String> TITLES = Set.of("The cloth.", "Wicks.", "Weaving a row.", "Periods.",
            "Denials.", "Texts.", "Undo.", "Exceptions.");
    private static final String BETWEEN_SENTENCES = "(?<=\\.) (?=[A-Z])";

    private static final Map<Integer, List<String>> DUE = readDocument();
    private static final Map<Integer, Set<String>> QUOTED = new TreeMap<>();
    private static String current = "";

    interface IndexCall {
        void on(CandleLoom loom, int index);
    }

    interface CellCall {
        void on(CandleLoom loom, int row, int column);
    }

    // ---- the document

    private static Map<Integer, List<String>> readDocument() {
        Map<Integer, List<String>> sentences = new TreeMap<>();
        int section = -1;
        boolean inCode = false;
        for (String line : lines()) {
            if (line.startsWith("```")) {
                inCode = !inCode;
            } else if (line.startsWith("## ")) {
                section = sectionOf(line);
            } else if (section >= 0 && !line.isBlank() && !line.startsWith("Ahead of the calls ")) {
                sentences.computeIfAbsent(section, any -> new ArrayList<>())
                        .addAll(inCode ? rules(line.trim()) : split(line.trim()));
            }
        }
        return sentences;
    }

    private static List<String> lines() {
        try {
            return Files.readAllLines(Path.of(DOCUMENT));
        } catch (IOException e) {
            throw new UncheckedIOException(e);
        }
    }

    private static int sectionOf(String title) {
        if (title.startsWith("## Promise ")) {
            return Integer.parseInt(title.substring(11, title.indexOf(':')));
        }
        return title.equals("## Terms") || title.equals("## What it is") ? TERMS : -1;
    }

    private static List<String> split(String line) {
        List<String> sentences = new ArrayList<>();
        String withoutMark = line.startsWith("- ") ? line.substring(2) : line;
        // Ahead of what a promise says of its call stands the call itself.
        String text = withoutMark.replaceFirst("^`[^`]*\\)[^`]*`: ", "");
        for (String sentence : text.split(BETWEEN_SENTENCES)) {
            if (!TITLES.contains(sentence)) {
                sentences.add(sentence);
            }
        }
        return sentences;
    }

    private static List<String> rules(String line) {
        if (line.startsWith("command: ")) {
            return List.of(line.substring(9).split(" \\| "));
        }
        return List.of(line.split("; "));
    }

    /** Each sentence of the document must have been quoted by a test. */
    static void requireAllQuoted() {
        Check.same("sections of the document", 54, DUE.size());
        for (Map.Entry<Integer, List<String>> section : DUE.entrySet()) {
            for (String sentence : section.getValue()) {
                boolean quoted = QUOTED.getOrDefault(section.getKey(), Set.of()).contains(sentence);
                Check.yes("promise " + section.getKey() + " has a test of: " + sentence, quoted);
            }
        }
    }

    // ---- the tests

    static void sentence(int promise, String words, Runnable test) {
        current = "promise " + promise + ": " + words;
        Check.yes(current + " [stands in the document]", DUE.get(promise).contains(words));
        boolean first = QUOTED.computeIfAbsent(promise, any -> new HashSet<>()).add(words);
        Check.yes(current + " [quoted once]", first);
        try {
            test.run();
        } catch (RuntimeException e) {
            Check.same(where(), "no exception", e + " at " + List.of(e.getStackTrace()).get(0));
        }
    }

    /** Where the check stands that is made now, for the one who reads that it failed. */
    private static String where() {
        String line = StackWalker.getInstance().walk(frames -> frames
                .filter(frame -> !frame.getClassName().equals("Sentences")).findFirst()
                .map(frame -> frame.getFileName() + ":" + frame.getLineNumber()).orElse(""));
        return current + " [" + line + "]";
    }

    static void is(Object due, Object got) {
        Check.same(where(), due, got);
    }

    static void yes(boolean got) {
        is(true, got);
    }

    static void no(boolean got) {
        is(false, got);
    }

    static void refuses(Class<?> due, Check.Call call) {
        Check.fails(where(), due, call);
    }

    static void denies(CandleLoom loom, int number, int detail, Check.Call call) {
        Check.denied(where(), loom, number, detail, call);
    }

    // ---- looms to test with

    /** A loom with so many rows, all with mask 6 and colour 3, and one lit wick with wax 99 less rows. */
    static CandleLoom woven(int rows) {
        CandleLoom loom = Check.lit(3, 6, 99);
        for (int left = rows; left > 0; left -= 10) {
            loom.weave(Math.min(left, 10));
        }
        return loom;
    }

    /** A loom with wicks, none lit, each with wax 9. */
    static CandleLoom wicks(int count) {
        CandleLoom loom = new CandleLoom();
        for (int i = 0; i < count; i++) {
            loom.addWick(i, 1 << i, 9);
        }
        return loom;
    }

    /** A loom with an empty cloth, burns and no heat; its two wicks, 0 and 1, are not lit. */
    static CandleLoom burnt(int left, int right) {
        CandleLoom loom = new CandleLoom();
        loom.addWick(0, 1, 99);
        loom.addWick(0, 32768, 99);
        heatUp(loom, 0, left);
        heatUp(loom, 1, right);
        return loom;
    }

    private static void heatUp(CandleLoom loom, int wick, int times) {
        loom.light(wick);
        for (int i = 0; i < times; i++) {
            loom.weave(5);
            loom.ravel(5);
        }
        loom.snuff(wick);
    }

    /** The indices of wicks that a call must refuse, and no others. */
    static void refusesWicksThatAreNot(IndexCall call) {
        CandleLoom none = new CandleLoom();
        refuses(INDEX, () -> call.on(none, 0));
        refuses(INDEX, () -> call.on(none, -1));
        for (int count = 1; count <= 8; count++) {
            CandleLoom loom = wicks(count);
            int next = count;
            loom.light(0);
            refuses(INDEX, () -> call.on(loom, -1));
            refuses(INDEX, () -> call.on(loom, next));
            refuses(INDEX, () -> call.on(loom, LEAST));
            refuses(INDEX, () -> call.on(loom, GREATEST));
        }
    }

    /** The indices of rows that a call must refuse, and the first and last ones that it must take. */
    static void refusesRowsThatAreNot(IndexCall call) {
        CandleLoom empty = Check.lit(0, 2, 9);
        refuses(INDEX, () -> call.on(empty, 0));
        refuses(INDEX, () -> call.on(empty, -1));
        for (int count : new int[] {1, 2, 39, 40}) {
            CandleLoom loom = woven(count);
            loom.knot(count - 1, 5);
            call.on(loom, 0);
            call.on(loom, count - 1);
            refuses(INDEX, () -> call.on(loom, -1));
            refuses(INDEX, () -> call.on(loom, count));
            refuses(INDEX, () -> call.on(loom, LEAST));
            refuses(INDEX, () -> call.on(loom, GREATEST));
        }
        CandleLoom shorter = woven(5);
        shorter.ravel(2);
        shorter.knot(2, 0);
        call.on(shorter, 2);
        refuses(INDEX, () -> call.on(shorter, 3));
    }

    /** The rows and columns of cells that a call must refuse. */
    static void refusesCellsThatAreNot(CellCall call) {
        CandleLoom empty = Check.lit(0, 2, 9);
        refuses(INDEX, () -> call.on(empty, 0, 0));
        for (int count : new int[] {1, 3, 40}) {
            CandleLoom loom = woven(count);
            int last = count - 1;
            refuses(INDEX, () -> call.on(loom, -1, 0));
            refuses(INDEX, () -> call.on(loom, count, 0));
            refuses(INDEX, () -> call.on(loom, LEAST, 15));
            refuses(INDEX, () -> call.on(loom, GREATEST, 15));
            refuses(INDEX, () -> call.on(loom, last, -1));
            refuses(INDEX, () -> call.on(loom, last, 16));
            refuses(INDEX, () -> call.on(loom, 0, LEAST));
            refuses(INDEX, () -> call.on(loom, 0, GREATEST));
            refuses(INDEX, () -> call.on(loom, count, 16));
        }
    }

    /** The characters that are no side. */
    static void refusesOtherSides(java.util.function.BiConsumer<CandleLoom, Character> call) {
        CandleLoom loom = burnt(1, 1);
        for (char side = 0; side < 256; side++) {
            char given = side;
            if (given != 'l' && given != 'r') {
                refuses(RANGE, () -> call.accept(loom, given));
            }
        }
        refuses(RANGE, () -> call.accept(loom, (char) ('l' + 256)));
        refuses(RANGE, () -> call.accept(loom, (char) 0xffff));
        call.accept(loom, 'l');
        call.accept(loom, 'r');
    }
}
