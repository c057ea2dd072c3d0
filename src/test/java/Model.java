import java.util.ArrayDeque;
import java.util.ArrayList;
import java.util.Comparator;
import java.util.Deque;
import java.util.HashSet;
import java.util.List;
import java.util.NoSuchElementException;
import java.util.TreeSet;
import java.util.regex.Matcher;
import java.util.regex.Pattern;

/** The document once more, written plainly with the Java library, to compare with. */
final class Model {
    record Wick(int colour, int mask, int wax, boolean lit) {
    }

    record Row(int mask, int colour) {
    }

    record Cell(int row, int column) implements Comparable<Cell> {
        public int compareTo(Cell other) {
            return Comparator.comparingInt(Cell::row).thenComparingInt(Cell::column).compare(this, other);
        }
    }

    static final class State {
        List<Wick> wicks = new ArrayList<>();
        List<Row> rows = new ArrayList<>();
        TreeSet<Cell> knots = new TreeSet<>();
        int leftHeat;
        int rightHeat;
        int leftBurn;
        int rightBurn;
        int woven;
        int used;

        State copy() {
            State copy = new State();
            copy.wicks = new ArrayList<>(wicks);
            copy.rows = new ArrayList<>(rows);
            copy.knots = new TreeSet<>(knots);
            copy.leftHeat = leftHeat;
            copy.rightHeat = rightHeat;
            copy.leftBurn = leftBurn;
            copy.rightBurn = rightBurn;
            copy.woven = woven;
            copy.used = used;
            return copy;
        }
    }

    private static final String COMMAND = "(?:wick [0-9] [0-9]{1,5} [0-9]{1,2}|light [0-9]|snuff [0-9]"
            + "|wax [0-9] [0-9]{1,2}|weave [0-9]{1,2}|ravel [0-9]{1,2}|repeat [0-9]{1,2} [0-9]"
            + "|knot [0-9]{1,2} [0-9]{1,2}|untie [0-9]{1,2} [0-9]{1,2}|mend [lr])";
    private static final Pattern TEXT = Pattern.compile(COMMAND + "(?:;" + COMMAND + ")*");

    State state = new State();
    final Deque<State> past = new ArrayDeque<>();
    State snapshot;
    String buffer = "";
    String line = "";
    Integer fault;
    int[] denial;
    private boolean inText;

    private void range(boolean met) {
        if (!met) {
            throw new IllegalArgumentException();
        }
    }

    private void index(int i, int size) {
        if (i < 0 || i >= size) {
            throw new IndexOutOfBoundsException();
        }
    }

    private void element(boolean met) {
        if (!met) {
            throw new NoSuchElementException();
        }
    }

    private void deny(boolean denied, int number, int detail) {
        if (denied) {
            denial = new int[] {number, detail, 0};
            throw new UnsupportedOperationException();
        }
    }

    private void changes() {
        if (!inText) {
            remember(state.copy());
        }
    }

    private void remember(State before) {
        past.addLast(before);
        if (past.size() > 8) {
            past.removeFirst();
        }
    }

    int addWick(int colour, int mask, int wax) {
        range(colour >= 0 && colour <= 7 && mask >= 1 && mask <= 65535 && wax >= 0 && wax <= 99);
        deny(state.wicks.size() == 8, 1, 8);
        changes();
        state.wicks.add(new Wick(colour, mask, wax, false));
        return state.wicks.size() - 1;
    }

    int light(int i) {
        index(i, wickCount());
        Wick w = state.wicks.get(i);
        deny(w.lit, 5, 1);
        deny(w.wax == 0, 6, i);
        changes();
        state.wicks.set(i, new Wick(w.colour, w.mask, w.wax, true));
        return litCount();
    }

    int snuff(int i) {
        index(i, wickCount());
        Wick w = state.wicks.get(i);
        deny(!w.lit, 5, 0);
        changes();
        state.wicks.set(i, new Wick(w.colour, w.mask, w.wax, false));
        return litCount();
    }

    int addWax(int i, int amount) {
        index(i, wickCount());
        range(amount >= 1 && amount <= 50);
        Wick w = state.wicks.get(i);
        deny(w.wax + amount > 99, 1, 99);
        changes();
        state.wicks.set(i, new Wick(w.colour, w.mask, w.wax + amount, w.lit));
        return w.wax + amount;
    }

    int wickCount() {
        return state.wicks.size();
    }

    int litCount() {
        return (int) state.wicks.stream().filter(Wick::lit).count();
    }

    boolean isLit(int i) {
        index(i, wickCount());
        return state.wicks.get(i).lit;
    }

    int wax(int i) {
        index(i, wickCount());
        return state.wicks.get(i).wax;
    }

    int wickByWax(int rank) {
        element(rank >= 0 && rank < wickCount());
        List<Integer> order = new ArrayList<>();
        for (int i = 0; i < wickCount(); i++) {
            order.add(i);
        }
        // The sort is stable, so equal wicks stay in the order of their indices.
        order.sort(Comparator.comparing((Integer i) -> !state.wicks.get(i).lit)
                .thenComparing(i -> -state.wicks.get(i).wax));
        return order.get(rank);
    }

    private int pattern() {
        return state.wicks.stream().filter(Wick::lit).mapToInt(Wick::mask).reduce(0, (a, b) -> a ^ b);
    }

    int nextMask() {
        int mask = 0;
        for (int c = state.leftBurn; c < 16 - state.rightBurn; c++) {
            mask += pattern() / (1 << c) % 2 * (1 << c);
        }
        return mask;
    }

    int rowsUntilDark() {
        return state.wicks.stream().filter(Wick::lit).mapToInt(Wick::wax).max().orElse(0);
    }

    int weave(int rows) {
        range(rows >= 1 && rows <= 10);
        deny(litCount() == 0, 2, wickCount());
        deny(rowCount() + rows > 40, 1, 40);
        changes();
        int woven = 0;
        do {
            weaveRow();
            woven++;
        } while (woven < rows && litCount() > 0);
        return woven;
    }

    private void weaveRow() {
        int pattern = pattern();
        state.rows.add(new Row(nextMask(), state.wicks.get(wickByWax(0)).colour));
        state.woven++;
        for (int i = 0; i < wickCount(); i++) {
            Wick w = state.wicks.get(i);
            if (w.lit) {
                state.used++;
                state.wicks.set(i, new Wick(w.colour, w.mask, w.wax - 1, w.wax > 1));
            }
        }
        state.leftHeat = pattern % 2 == 1 ? state.leftHeat + 1 : 0;
        state.rightHeat = pattern >= 32768 ? state.rightHeat + 1 : 0;
        if (state.leftHeat == 5) {
            state.leftHeat = 0;
            state.leftBurn = Math.min(4, state.leftBurn + 1);
        }
        if (state.rightHeat == 5) {
            state.rightHeat = 0;
            state.rightBurn = Math.min(4, state.rightBurn + 1);
        }
    }

    int ravel(int rows) {
        range(rows >= 1 && rows <= 10);
        deny(rowCount() < rows, 4, rowCount());
        if (!state.knots.isEmpty()) {
            deny(state.knots.last().row >= rowCount() - rows, 3, state.knots.last().row);
        }
        changes();
        state.rows = new ArrayList<>(state.rows.subList(0, rowCount() - rows));
        return rowCount();
    }

    int repeatLast(int rows, int times) {
        range(rows >= 1 && rows <= 20 && times >= 1 && times <= 9);
        deny(rowCount() < rows, 4, rowCount());
        deny(rowCount() + rows * times > 40, 1, 40);
        changes();
        List<Row> last = new ArrayList<>(state.rows.subList(rowCount() - rows, rowCount()));
        for (int i = 0; i < times; i++) {
            state.rows.addAll(last);
        }
        return rowCount();
    }

    private void cell(int row, int column) {
        index(row, rowCount());
        index(column, 16);
    }

    int knot(int row, int column) {
        cell(row, column);
        deny(isKnotted(row, column), 5, 1);
        changes();
        state.knots.add(new Cell(row, column));
        return knotCount();
    }

    int untie(int row, int column) {
        cell(row, column);
        deny(!isKnotted(row, column), 5, 0);
        changes();
        state.knots.remove(new Cell(row, column));
        return knotCount();
    }

    int mend(char side) {
        deny(burn(side) == 0, 5, 0);
        changes();
        if (side == 'l') {
            state.leftHeat = 0;
            return --state.leftBurn;
        }
        state.rightHeat = 0;
        return --state.rightBurn;
    }

    int rowCount() {
        return state.rows.size();
    }

    int rowMask(int row) {
        index(row, rowCount());
        return state.rows.get(row).mask;
    }

    int rowColour(int row) {
        index(row, rowCount());
        return state.rows.get(row).colour;
    }

    boolean isRaised(int row, int column) {
        cell(row, column);
        return rowMask(row) / (1 << column) % 2 == 1;
    }

    boolean isKnotted(int row, int column) {
        cell(row, column);
        return state.knots.contains(new Cell(row, column));
    }

    int knotCount() {
        return state.knots.size();
    }

    private Cell nextKnot(int row) {
        index(row, rowCount());
        Cell next = state.knots.ceiling(new Cell(row, 0));
        element(next != null);
        return next;
    }

    int nextKnotRow(int row) {
        return nextKnot(row).row;
    }

    int nextKnotColumn(int row) {
        return nextKnot(row).column;
    }

    int burn(char side) {
        range(side == 'l' || side == 'r');
        return side == 'l' ? state.leftBurn : state.rightBurn;
    }

    int heat(char side) {
        range(side == 'l' || side == 'r');
        return side == 'l' ? state.leftHeat : state.rightHeat;
    }

    int period() {
        element(rowCount() > 0);
        int n = rowCount();
        for (int p = 1;; p++) {
            if (state.rows.subList(p, n).equals(state.rows.subList(0, n - p))) {
                return p;
            }
        }
    }

    int occurrences(int rows) {
        range(rows >= 1 && rows <= rowCount());
        int n = rowCount();
        List<Row> last = state.rows.subList(n - rows, n);
        int found = 0;
        for (int i = 0; i + rows <= n; i++) {
            found += state.rows.subList(i, i + rows).equals(last) ? 1 : 0;
        }
        return found;
    }

    int distinctRows() {
        return new HashSet<>(state.rows).size();
    }

    int distance(int first, int second) {
        index(first, rowCount());
        index(second, rowCount());
        int columns = 0;
        for (int c = 0; c < 16; c++) {
            columns += isRaised(first, c) != isRaised(second, c) ? 1 : 0;
        }
        return columns;
    }

    int longestFloat(int column) {
        index(column, 16);
        StringBuilder run = new StringBuilder();
        for (int row = 0; row < rowCount(); row++) {
            run.append(isRaised(row, column) ? 'x' : ' ');
        }
        int longest = 0;
        for (String part : run.toString().split(" ")) {
            longest = Math.max(longest, part.length());
        }
        return longest;
    }

    boolean isSymmetric() {
        List<Row> reversed = new ArrayList<>();
        for (Row row : state.rows) {
            reversed.add(0, row);
        }
        return reversed.equals(state.rows);
    }

    double meanRaised() {
        if (rowCount() == 0) {
            throw new ArithmeticException();
        }
        int sum = 0;
        for (int row = 0; row < rowCount(); row++) {
            for (int c = 0; c < 16; c++) {
                sum += isRaised(row, c) ? 1 : 0;
            }
        }
        return (double) sum / rowCount();
    }

    float knotShare() {
        if (rowCount() == 0) {
            throw new ArithmeticException();
        }
        return (float) knotCount() / (rowCount() * 16);
    }

    int feed(char character) {
        if (buffer.length() == 60) {
            throw new IllegalStateException();
        }
        buffer += character;
        return buffer.length();
    }

    int execute() {
        String text = buffer;
        buffer = "";
        if (!TEXT.matcher(text).matches()) {
            fault = faultOf(text);
            throw new IllegalArgumentException();
        }
        State before = state.copy();
        String[] commands = text.split(";");
        int i = 0;
        inText = true;
        try {
            for (String command : commands) {
                perform(command.split(" "));
                i++;
            }
        } catch (UnsupportedOperationException e) {
            denial = new int[] {7, i, denial[0]};
        } catch (RuntimeException e) {
            denial = new int[] {7, i, 8};
        }
        inText = false;
        if (i < commands.length) {
            state = before;
            throw new UnsupportedOperationException();
        }
        remember(before);
        return i;
    }

    /** A beginning of a text is one for which the pattern asks for more at its end. */
    static int faultOf(String text) {
        int length = 0;
        while (length < text.length() && canBegin(text.substring(0, length + 1))) {
            length++;
        }
        return length;
    }

    private static boolean canBegin(String beginning) {
        Matcher matcher = TEXT.matcher(beginning);
        return matcher.matches() || matcher.hitEnd();
    }

    private void perform(String[] words) {
        int first = words[0].equals("mend") ? 0 : Integer.parseInt(words[1]);
        int second = words.length > 2 ? Integer.parseInt(words[2]) : 0;
        switch (words[0]) {
            case "wick" -> addWick(first, second, Integer.parseInt(words[3]));
            case "light" -> light(first);
            case "snuff" -> snuff(first);
            case "wax" -> addWax(first, second);
            case "weave" -> weave(first);
            case "ravel" -> ravel(first);
            case "repeat" -> repeatLast(first, second);
            case "knot" -> knot(first, second);
            case "untie" -> untie(first, second);
            default -> mend(words[1].charAt(0));
        }
    }

    int faultPosition() {
        element(fault != null);
        return fault;
    }

    int writeRow(int row) {
        index(row, rowCount());
        line = rowColour(row) + ":";
        for (int c = 0; c < 16; c++) {
            line += isRaised(row, c) ? isKnotted(row, c) ? "X" : "x" : isKnotted(row, c) ? "o" : ".";
        }
        return line.length();
    }

    int writeWicks() {
        List<String> parts = new ArrayList<>();
        for (Wick w : state.wicks) {
            parts.add((w.lit ? "*" : "-") + w.colour + "=" + w.wax);
        }
        line = String.join(",", parts);
        return line.length();
    }

    char lineCharacter(int i) {
        index(i, line.length());
        return line.charAt(i);
    }

    int denial() {
        element(denial != null);
        return denial[0];
    }

    int denialDetail() {
        element(denial != null);
        return denial[1];
    }

    int denialCause() {
        element(denial != null && denial[0] == 7);
        return denial[2];
    }

    int undo() {
        if (past.isEmpty()) {
            throw new IllegalStateException();
        }
        state = past.removeLast();
        return past.size();
    }

    int saveSnapshot() {
        snapshot = state.copy();
        return rowCount();
    }

    int restoreSnapshot() {
        if (snapshot == null) {
            throw new IllegalStateException();
        }
        state = snapshot.copy();
        past.clear();
        return rowCount();
    }
}
