import java.io.IOException;
import java.nio.file.Files;
import java.nio.file.Path;
import java.util.ArrayList;
import java.util.List;

/** The calls that README.md shows answer what it says they do. */
public final class ReadmeTest {
    private static final String SELF = "src/test/java/ReadmeTest.java";

    public static void main(String[] args) throws IOException {
        Check.watch();
        shownLinesAreThoseBelow();
        use();
        Check.end();
    }

    /** The lines of Java that README.md shows must stand in this file, in the same order. */
    private static void shownLinesAreThoseBelow() throws IOException {
        List<String> own = new ArrayList<>();
        for (String line : Files.readAllLines(Path.of(SELF))) {
            own.add(line.trim());
        }
        int next = own.indexOf("private static void use() {");
        List<String> shown = shownLines();
        Check.yes("README.md shows lines of Java", shown.size() > 10);
        for (String line : shown) {
            int found = own.subList(next, own.size()).indexOf(line);
            Check.yes("README.md shows what is tested: " + line, found >= 0);
            next += Math.max(found, 0);
        }
    }

    private static List<String> shownLines() throws IOException {
        List<String> shown = new ArrayList<>();
        boolean inJava = false;
        for (String line : Files.readAllLines(Path.of("README.md"))) {
            if (line.startsWith("```")) {
                inJava = line.equals("```java");
            } else if (inJava) {
                shown.add(line.replaceFirst("//.*", "").trim());
            }
        }
        return shown;
    }

    private static void use() {
        CandleLoom loom = new CandleLoom();
        int wick = loom.addWick(3, 0b0110, 12);
        loom.light(wick);
        loom.weave(5);
        Check.same("5 rows", 5, loom.rowCount());
        Check.same("row 0", "3:.xx.............", Check.line(loom, loom.writeRow(0)));
        loom.knot(4, 1);
        int length = loom.writeRow(4);
        Check.same("length", 18, length);
        Check.same("row 4", "3:.Xx.............", Check.line(loom, length));
        char cell = loom.lineCharacter(3);
        Check.same("cell", 'X', cell);

        boolean refused = false;
        try {
            loom.ravel(1);
        } catch (UnsupportedOperationException denied) {
            int reason = loom.denial();
            int row = loom.denialDetail();
            Check.same("reason", 3, reason);
            Check.same("row", 4, row);
            refused = true;
        }
        Check.yes("refused", refused);

        for (char character : "untie 4 1;ravel 2".toCharArray()) {
            loom.feed(character);
        }
        int commands = loom.execute();
        Check.same("commands", 2, commands);
        Check.same("rows after the text", 3, loom.rowCount());

        loom.saveSnapshot();
        loom.undo();
        Check.same("rows after undo", 5, loom.rowCount());
        Check.yes("the knot again", loom.isKnotted(4, 1));
        loom.restoreSnapshot();
        Check.same("rows restored", 3, loom.rowCount());
        Check.same("nothing to undo", 0, loom.undoCount());
    }
}
