import java.util.NoSuchElementException;

/**
 * A loom that weaves a cloth row by row: wicks raise columns while they are lit,
 * edges burn, knots hold rows, and patterns repeat.
 */
public final class CandleLoom {

    private static final int COLUMNS = 16;
    private static final int MAX_COLOUR = 7;
    private static final int MAX_MASK = 65535;

    private static final int MAX_WICKS = 8;
    private static final int MAX_WAX = 99;
    private static final int MAX_ADDED_WAX = 50;

    private static final int MAX_ROWS = 40;
    private static final int MAX_ROWS_AT_ONCE = 10;
    private static final int MAX_REPEATED_ROWS = 20;
    private static final int MAX_REPEATS = 9;

    private static final int HEAT_THAT_BURNS = 5;
    private static final int MAX_BURN = 4;

    private static final int MAX_TEXT = 60;
    private static final int SHORTEST_COMMAND = 6;
    private static final int MAX_COMMANDS = MAX_TEXT / SHORTEST_COMMAND;
    private static final int LONGEST_LINE = 48;
    private static final int MAX_UNDO = 8;

    private static final int ALLOWED = 0;
    private static final int LIMIT_REACHED = 1;
    private static final int NO_WICK_LIT = 2;
    private static final int KNOTS_HOLD = 3;
    private static final int TOO_FEW_ROWS = 4;
    private static final int ALREADY_SO = 5;
    private static final int NO_WAX = 6;
    private static final int COMMAND_FAILED = 7;
    private static final int OTHER_EXCEPTION = 8;
    // Verdicts that are no denials: the call throws, and no denial is kept.
    private static final int OUT_OF_RANGE = 9;
    private static final int NO_SUCH_INDEX = 10;

    private static final Kind[] KINDS = Kind.values();

    private final Loom loom;
    private final Loom beforeText;
    private final Loom snapshot;
    private boolean snapshotTaken;
    private final History history;

    private final Judge judge;
    private final Command request;
    private final Script script;
    private boolean faultKept;
    private int keptFault;
    private final Line line;

    private int deniedNumber;
    private int deniedDetail;
    private int deniedCause;

    public CandleLoom() {
        loom = new Loom();
        beforeText = new Loom();
        snapshot = new Loom();
        history = new History();
        judge = new Judge();
        request = new Command();
        script = new Script();
        line = new Line();
    }

    // ---- wicks

    public int addWick(int colour, int mask, int wax)
            throws IllegalArgumentException, UnsupportedOperationException {
        return change(request.become(Kind.WICK, colour, mask, wax));
    }

    public int light(int wick) throws IndexOutOfBoundsException, UnsupportedOperationException {
        return change(request.become(Kind.LIGHT, wick, 0, 0));
    }

    public int snuff(int wick) throws IndexOutOfBoundsException, UnsupportedOperationException {
        return change(request.become(Kind.SNUFF, wick, 0, 0));
    }

    public int addWax(int wick, int wax)
            throws IndexOutOfBoundsException, IllegalArgumentException, UnsupportedOperationException {
        return change(request.become(Kind.WAX, wick, wax, 0));
    }

    public int wickCount() {
        return loom.wicks.count;
    }

    public int litCount() {
        return loom.wicks.countLit();
    }

    public boolean isLit(int wick) throws IndexOutOfBoundsException {
        requireIndex(loom.wicks.has(wick));
        return loom.wicks.lit[wick];
    }

    public int wax(int wick) throws IndexOutOfBoundsException {
        requireIndex(loom.wicks.has(wick));
        return loom.wicks.waxes[wick];
    }

    public int wickByWax(int rank) throws NoSuchElementException {
        requireElement(loom.wicks.has(rank));
        return loom.wicks.atRank(rank);
    }

    public int nextMask() {
        return loom.unburnt(loom.wicks.pattern());
    }

    public int rowsUntilDark() {
        int rows = 0;
        while (rows < MAX_WAX && loom.wicks.anyLitAfter(rows)) {
            rows++;
        }
        return rows;
    }

    public int rowsUntilDarkByWax() {
        return loom.wicks.mostLitWax();
    }

    // ---- the cloth

    public int weave(int rows) throws IllegalArgumentException, UnsupportedOperationException {
        return change(request.become(Kind.WEAVE, rows, 0, 0));
    }

    public int ravel(int rows) throws IllegalArgumentException, UnsupportedOperationException {
        return change(request.become(Kind.RAVEL, rows, 0, 0));
    }

    public int repeatLast(int rows, int times)
            throws IllegalArgumentException, UnsupportedOperationException {
        return change(request.become(Kind.REPEAT, rows, times, 0));
    }

    public int knot(int row, int column)
            throws IndexOutOfBoundsException, UnsupportedOperationException {
        return change(request.become(Kind.KNOT, row, column, 0));
    }

    public int untie(int row, int column)
            throws IndexOutOfBoundsException, UnsupportedOperationException {
        return change(request.become(Kind.UNTIE, row, column, 0));
    }

    public int mend(char side) throws IllegalArgumentException, UnsupportedOperationException {
        return change(request.become(Kind.MEND, side, 0, 0));
    }

    public int rowCount() {
        return loom.cloth.count;
    }

    public int rowMask(int row) throws IndexOutOfBoundsException {
        requireIndex(loom.cloth.has(row));
        return loom.cloth.masks[row];
    }

    public int rowColour(int row) throws IndexOutOfBoundsException {
        requireIndex(loom.cloth.has(row));
        return loom.cloth.colours[row];
    }

    public boolean isRaised(int row, int column) throws IndexOutOfBoundsException {
        requireIndex(loom.cloth.hasCell(row, column));
        return loom.cloth.raisedAt(row, column);
    }

    public boolean isKnotted(int row, int column) throws IndexOutOfBoundsException {
        requireIndex(loom.cloth.hasCell(row, column));
        return loom.cloth.knottedAt(row, column);
    }

    public int knotCount() {
        return loom.cloth.countKnots();
    }

    public int nextKnotRow(int row) throws IndexOutOfBoundsException, NoSuchElementException {
        return knottedRowFrom(row);
    }

    public int nextKnotColumn(int row) throws IndexOutOfBoundsException, NoSuchElementException {
        return loom.cloth.firstKnottedColumn(knottedRowFrom(row));
    }

    public int burn(char side) throws IllegalArgumentException {
        requireRange(Loom.isSide(side));
        return loom.edgeAt(side).burnt;
    }

    public int heat(char side) throws IllegalArgumentException {
        requireRange(Loom.isSide(side));
        return loom.edgeAt(side).warmth;
    }

    // ---- patterns

    public int period() throws NoSuchElementException {
        requireElement(loom.cloth.count > 0);
        int shift = 1;
        while (shift < loom.cloth.count && !loom.cloth.overlapsItself(shift)) {
            shift++;
        }
        return shift;
    }

    public int periodByBorders() throws NoSuchElementException {
        requireElement(loom.cloth.count > 0);
        return loom.cloth.count - loom.cloth.longestBorder();
    }

    public int occurrences(int rows) throws IllegalArgumentException {
        requireRange(rows >= 1 && rows <= loom.cloth.count);
        return loom.cloth.countOfLast(rows);
    }

    public int distinctRows() {
        return loom.cloth.countDifferent();
    }

    public int distance(int first, int second) throws IndexOutOfBoundsException {
        requireIndex(loom.cloth.has(first) && loom.cloth.has(second));
        return Integer.bitCount(loom.cloth.masks[first] ^ loom.cloth.masks[second]);
    }

    public int longestFloat(int column) throws IndexOutOfBoundsException {
        requireIndex(Cloth.isColumn(column));
        return loom.cloth.longestRaisedRun(column);
    }

    public boolean isSymmetric() {
        return loom.cloth.sameReversed();
    }

    // ---- statistics

    public int wovenTotal() {
        return loom.rowsWoven;
    }

    public int waxUsed() {
        return loom.waxBurnt;
    }

    public double meanRaised() throws ArithmeticException {
        requireDivisor(loom.cloth.count);
        return (double) loom.cloth.countRaised() / (double) loom.cloth.count;
    }

    public float knotShare() throws ArithmeticException {
        requireDivisor(loom.cloth.count);
        return (float) loom.cloth.countKnots() / (float) (loom.cloth.count * COLUMNS);
    }

    // ---- texts and output lines

    public int feed(char character) throws IllegalStateException {
        requireState(!script.isFull());
        return script.append(character);
    }

    public int execute() throws IllegalArgumentException, UnsupportedOperationException {
        boolean matches = script.parse();
        script.clear();
        if (!matches) {
            faultKept = true;
            keptFault = script.position;
        }
        requireRange(matches);
        beforeText.copyFrom(loom);
        int failed = firstFailingCommand();
        if (failed >= 0) {
            loom.copyFrom(beforeText);
            throwDenial(COMMAND_FAILED, failed);
        }
        history.keep(beforeText);
        return script.found;
    }

    public int faultPosition() throws NoSuchElementException {
        requireElement(faultKept);
        return keptFault;
    }

    public int writeRow(int row) throws IndexOutOfBoundsException {
        requireIndex(loom.cloth.has(row));
        line.showRow(loom.cloth, row);
        return line.length;
    }

    public int writeWicks() {
        line.showWicks(loom.wicks);
        return line.length;
    }

    public char lineCharacter(int index) throws IndexOutOfBoundsException {
        requireIndex(index >= 0 && index < line.length);
        return line.signs[index];
    }

    // ---- the latest denial

    public int denial() throws NoSuchElementException {
        requireElement(deniedNumber != ALLOWED);
        return deniedNumber;
    }

    public int denialDetail() throws NoSuchElementException {
        requireElement(deniedNumber != ALLOWED);
        return deniedDetail;
    }

    public int denialCause() throws NoSuchElementException {
        requireElement(deniedNumber == COMMAND_FAILED);
        return deniedCause;
    }

    // ---- undo and snapshots

    public int undo() throws IllegalStateException {
        requireState(history.count > 0);
        history.takeBack(loom);
        return history.count;
    }

    public int undoCount() {
        return history.count;
    }

    public int saveSnapshot() {
        snapshot.copyFrom(loom);
        snapshotTaken = true;
        return loom.cloth.count;
    }

    public int restoreSnapshot() throws IllegalStateException {
        requireState(snapshotTaken);
        loom.copyFrom(snapshot);
        history.forget();
        return loom.cloth.count;
    }

    // ---- what the calls share

    private int change(Command command) {
        int verdict = judge.verdictOn(command, loom);
        requireRange(verdict != OUT_OF_RANGE);
        requireIndex(verdict != NO_SUCH_INDEX);
        if (verdict != ALLOWED) {
            throwDenial(verdict, judge.detail);
        }
        history.keep(loom);
        return loom.perform(command);
    }

    /** Performs the commands of the text up to the first that fails; -1 if none does. */
    private int firstFailingCommand() {
        for (int i = 0; i < script.found; i++) {
            Command command = script.commands[i];
            int verdict = judge.verdictOn(command, loom);
            if (verdict != ALLOWED) {
                deniedCause = verdict <= NO_WAX ? verdict : OTHER_EXCEPTION;
                return i;
            }
            loom.perform(command);
        }
        return -1;
    }

    private int knottedRowFrom(int row) {
        requireIndex(loom.cloth.has(row));
        int found = loom.cloth.firstKnottedRow(row);
        requireElement(found >= 0);
        return found;
    }

    private void throwDenial(int number, int detail) {
        deniedNumber = number;
        deniedDetail = detail;
        throw new UnsupportedOperationException("the call is denied");
    }

    private static void requireRange(boolean met) {
        if (!met) {
            throw new IllegalArgumentException("an argument or the text is not allowed");
        }
    }

    private static void requireIndex(boolean met) {
        if (!met) {
            throw new IndexOutOfBoundsException("there is no such index");
        }
    }

    private static void requireElement(boolean met) {
        if (!met) {
            throw new NoSuchElementException("there is none");
        }
    }

    private static void requireState(boolean met) {
        if (!met) {
            throw new IllegalStateException("the call is not possible now");
        }
    }

    private static void requireDivisor(int divisor) {
        if (divisor == 0) {
            throw new ArithmeticException("the cloth has no rows");
        }
    }

    /** The kinds of commands, with the word each begins with and the form of its parameters. */
    private enum Kind {
        WICK("wick ", "1 5 2"),
        LIGHT("light ", "1"),
        SNUFF("snuff ", "1"),
        WAX("wax ", "1 2"),
        WEAVE("weave ", "2"),
        RAVEL("ravel ", "2"),
        REPEAT("repeat ", "2 1"),
        KNOT("knot ", "2 2"),
        UNTIE("untie ", "2 2"),
        MEND("mend ", "s");

        final String word;
        // A digit stands for one to so many digits, s for a side, a space for itself.
        final String form;

        Kind(String word, String form) {
            this.word = word;
            this.form = form;
        }
    }

    /** A change that is asked for, by a call or by a text. */
    private static final class Command {
        Kind kind = Kind.WICK;
        int first;
        int second;
        int third;

        Command become(Kind newKind, int newFirst, int newSecond, int newThird) {
            kind = newKind;
            first = newFirst;
            second = newSecond;
            third = newThird;
            return this;
        }

        void put(int slot, int value) {
            if (slot == 0) {
                first = value;
            } else if (slot == 1) {
                second = value;
            } else {
                third = value;
            }
        }
    }

    /**
     * Says whether a command may be performed, without performing it: a text must
     * learn of a failure without an exception, a call must throw the right one.
     */
    private static final class Judge {
        int detail;

        int verdictOn(Command command, Loom loom) {
            int first = command.first;
            int second = command.second;
            switch (command.kind) {
                case WICK:
                    return onNewWick(loom.wicks, first, second, command.third);
                case LIGHT:
                    return onLighting(loom.wicks, first);
                case SNUFF:
                    return onSnuffing(loom.wicks, first);
                case WAX:
                    return onMoreWax(loom.wicks, first, second);
                case WEAVE:
                    return onWeaving(loom, first);
                case RAVEL:
                    return onRavelling(loom.cloth, first);
                case REPEAT:
                    return onRepeating(loom.cloth, first, second);
                case KNOT:
                    return onKnots(loom.cloth, first, second, true);
                case UNTIE:
                    return onKnots(loom.cloth, first, second, false);
                default:
                    return onMending(loom, first);
            }
        }

        private int onNewWick(Wicks wicks, int colour, int mask, int wax) {
            if (colour < 0 || colour > MAX_COLOUR || mask < 1 || mask > MAX_MASK || wax < 0 || wax > MAX_WAX) {
                return OUT_OF_RANGE;
            }
            return wicks.count >= MAX_WICKS ? deny(LIMIT_REACHED, MAX_WICKS) : ALLOWED;
        }

        private int onLighting(Wicks wicks, int wick) {
            if (!wicks.has(wick)) {
                return NO_SUCH_INDEX;
            }
            if (wicks.lit[wick]) {
                return deny(ALREADY_SO, 1);
            }
            return wicks.waxes[wick] == 0 ? deny(NO_WAX, wick) : ALLOWED;
        }

        private int onSnuffing(Wicks wicks, int wick) {
            if (!wicks.has(wick)) {
                return NO_SUCH_INDEX;
            }
            return wicks.lit[wick] ? ALLOWED : deny(ALREADY_SO, 0);
        }

        private int onMoreWax(Wicks wicks, int wick, int wax) {
            if (!wicks.has(wick)) {
                return NO_SUCH_INDEX;
            }
            if (wax < 1 || wax > MAX_ADDED_WAX) {
                return OUT_OF_RANGE;
            }
            return wicks.waxes[wick] + wax > MAX_WAX ? deny(LIMIT_REACHED, MAX_WAX) : ALLOWED;
        }

        private int onWeaving(Loom loom, int rows) {
            if (rows < 1 || rows > MAX_ROWS_AT_ONCE) {
                return OUT_OF_RANGE;
            }
            if (loom.wicks.countLit() == 0) {
                return deny(NO_WICK_LIT, loom.wicks.count);
            }
            return loom.cloth.count + rows > MAX_ROWS ? deny(LIMIT_REACHED, MAX_ROWS) : ALLOWED;
        }

        private int onRavelling(Cloth cloth, int rows) {
            if (rows < 1 || rows > MAX_ROWS_AT_ONCE) {
                return OUT_OF_RANGE;
            }
            if (rows > cloth.count) {
                return deny(TOO_FEW_ROWS, cloth.count);
            }
            int knotted = cloth.lastKnottedRow();
            return knotted >= cloth.count - rows ? deny(KNOTS_HOLD, knotted) : ALLOWED;
        }

        private int onRepeating(Cloth cloth, int rows, int times) {
            if (rows < 1 || rows > MAX_REPEATED_ROWS || times < 1 || times > MAX_REPEATS) {
                return OUT_OF_RANGE;
            }
            if (rows > cloth.count) {
                return deny(TOO_FEW_ROWS, cloth.count);
            }
            return cloth.count + rows * times > MAX_ROWS ? deny(LIMIT_REACHED, MAX_ROWS) : ALLOWED;
        }

        private int onKnots(Cloth cloth, int row, int column, boolean wanted) {
            if (!cloth.hasCell(row, column)) {
                return NO_SUCH_INDEX;
            }
            return cloth.knottedAt(row, column) == wanted ? deny(ALREADY_SO, wanted ? 1 : 0) : ALLOWED;
        }

        private int onMending(Loom loom, int side) {
            if (!Loom.isSide(side)) {
                return OUT_OF_RANGE;
            }
            return loom.edgeAt(side).burnt == 0 ? deny(ALREADY_SO, 0) : ALLOWED;
        }

        private int deny(int number, int newDetail) {
            detail = newDetail;
            return number;
        }
    }

    /** Everything that changes can change. */
    private static final class Loom {
        final Wicks wicks = new Wicks();
        final Cloth cloth = new Cloth();
        final Edge left = new Edge();
        final Edge right = new Edge();
        int rowsWoven;
        int waxBurnt;

        static boolean isSide(int side) {
            return side == 'l' || side == 'r';
        }

        Edge edgeAt(int side) {
            return side == 'l' ? left : right;
        }

        void copyFrom(Loom other) {
            wicks.copyFrom(other.wicks);
            cloth.copyFrom(other.cloth);
            left.copyFrom(other.left);
            right.copyFrom(other.right);
            rowsWoven = other.rowsWoven;
            waxBurnt = other.waxBurnt;
        }

        /** Performs a command that the judge allows, and answers what its call answers. */
        int perform(Command command) {
            int first = command.first;
            int second = command.second;
            switch (command.kind) {
                case WICK:
                    return wicks.place(first, second, command.third);
                case LIGHT:
                    return wicks.setLit(first, true);
                case SNUFF:
                    return wicks.setLit(first, false);
                case WAX:
                    return wicks.pour(first, second);
                case WEAVE:
                    return weaveRows(first);
                case RAVEL:
                    return cloth.removeLast(first);
                case REPEAT:
                    return cloth.copyLast(first, second);
                case KNOT:
                case UNTIE:
                    return cloth.flipKnot(first, second);
                default:
                    return edgeAt(first).repair();
            }
        }

        int unburnt(int pattern) {
            int leftColumns = (1 << left.burnt) - 1;
            int withoutRight = (1 << (COLUMNS - right.burnt)) - 1;
            return pattern & ~leftColumns & withoutRight;
        }

        private int weaveRows(int rows) {
            int woven = 0;
            while (woven < rows && wicks.countLit() > 0) {
                weaveRow();
                woven++;
            }
            return woven;
        }

        private void weaveRow() {
            int pattern = wicks.pattern();
            cloth.append(unburnt(pattern), wicks.leadingColour());
            rowsWoven++;
            waxBurnt += wicks.burnDown();
            left.feel((pattern & 1) != 0);
            right.feel((pattern >> (COLUMNS - 1) & 1) != 0);
        }
    }

    private static final class Edge {
        int warmth;
        int burnt;

        void copyFrom(Edge other) {
            warmth = other.warmth;
            burnt = other.burnt;
        }

        void feel(boolean raised) {
            warmth = raised ? warmth + 1 : 0;
            if (warmth == HEAT_THAT_BURNS) {
                warmth = 0;
                burnt = Math.min(burnt + 1, MAX_BURN);
            }
        }

        int repair() {
            burnt--;
            warmth = 0;
            return burnt;
        }
    }

    private static final class Wicks {
        final int[] colours = new int[MAX_WICKS];
        final int[] masks = new int[MAX_WICKS];
        final int[] waxes = new int[MAX_WICKS];
        final boolean[] lit = new boolean[MAX_WICKS];
        int count;

        void copyFrom(Wicks other) {
            for (int i = 0; i < MAX_WICKS; i++) {
                colours[i] = other.colours[i];
                masks[i] = other.masks[i];
                waxes[i] = other.waxes[i];
                lit[i] = other.lit[i];
            }
            count = other.count;
        }

        boolean has(int wick) {
            return wick >= 0 && wick < count;
        }

        int place(int colour, int mask, int wax) {
            colours[count] = colour;
            masks[count] = mask;
            waxes[count] = wax;
            lit[count] = false;
            count++;
            return count - 1;
        }

        int setLit(int wick, boolean wanted) {
            lit[wick] = wanted;
            return countLit();
        }

        int pour(int wick, int wax) {
            waxes[wick] += wax;
            return waxes[wick];
        }

        int countLit() {
            int sum = 0;
            for (int i = 0; i < count; i++) {
                if (lit[i]) {
                    sum++;
                }
            }
            return sum;
        }

        int pattern() {
            int mask = 0;
            for (int i = 0; i < count; i++) {
                if (lit[i]) {
                    mask ^= masks[i];
                }
            }
            return mask;
        }

        int atRank(int rank) {
            for (int i = 0; i < count; i++) {
                if (rankOf(i) == rank) {
                    return i;
                }
            }
            return 0;
        }

        private int rankOf(int wick) {
            int before = 0;
            for (int i = 0; i < count; i++) {
                if (precedes(i, wick)) {
                    before++;
                }
            }
            return before;
        }

        private boolean precedes(int wick, int other) {
            if (lit[wick] != lit[other]) {
                return lit[wick];
            }
            if (waxes[wick] != waxes[other]) {
                return waxes[wick] > waxes[other];
            }
            return wick < other;
        }

        /** The colour of the lit wick with the most wax. */
        int leadingColour() {
            int colour = 0;
            int most = 0;
            for (int i = 0; i < count; i++) {
                if (lit[i] && waxes[i] > most) {
                    most = waxes[i];
                    colour = colours[i];
                }
            }
            return colour;
        }

        /** Takes the wax of one row from the lit wicks, and answers how much that is. */
        int burnDown() {
            int used = 0;
            for (int i = 0; i < count; i++) {
                if (lit[i]) {
                    waxes[i]--;
                    lit[i] = waxes[i] > 0;
                    used++;
                }
            }
            return used;
        }

        boolean anyLitAfter(int rows) {
            for (int i = 0; i < count; i++) {
                if (lit[i] && waxes[i] > rows) {
                    return true;
                }
            }
            return false;
        }

        int mostLitWax() {
            int most = 0;
            for (int i = 0; i < count; i++) {
                if (lit[i]) {
                    most = Math.max(most, waxes[i]);
                }
            }
            return most;
        }
    }

    private static final class Cloth {
        final int[] masks = new int[MAX_ROWS];
        final int[] colours = new int[MAX_ROWS];
        final int[] knots = new int[MAX_ROWS];
        int count;

        static boolean isColumn(int column) {
            return column >= 0 && column < COLUMNS;
        }

        void copyFrom(Cloth other) {
            System.arraycopy(other.masks, 0, masks, 0, MAX_ROWS);
            System.arraycopy(other.colours, 0, colours, 0, MAX_ROWS);
            System.arraycopy(other.knots, 0, knots, 0, MAX_ROWS);
            count = other.count;
        }

        boolean has(int row) {
            return row >= 0 && row < count;
        }

        boolean hasCell(int row, int column) {
            return has(row) && isColumn(column);
        }

        boolean raisedAt(int row, int column) {
            return (masks[row] >> column & 1) != 0;
        }

        boolean knottedAt(int row, int column) {
            return (knots[row] >> column & 1) != 0;
        }

        void append(int mask, int colour) {
            masks[count] = mask;
            colours[count] = colour;
            knots[count] = 0;
            count++;
        }

        int removeLast(int rows) {
            count -= rows;
            return count;
        }

        int copyLast(int rows, int times) {
            int copies = rows * times;
            for (int i = 0; i < copies; i++) {
                // Each copy becomes the source of the one that stands rows later.
                int source = count - rows;
                append(masks[source], colours[source]);
            }
            return count;
        }

        int flipKnot(int row, int column) {
            knots[row] ^= 1 << column;
            return countKnots();
        }

        int countKnots() {
            int sum = 0;
            for (int row = 0; row < count; row++) {
                sum += Integer.bitCount(knots[row]);
            }
            return sum;
        }

        int countRaised() {
            int sum = 0;
            for (int row = 0; row < count; row++) {
                sum += Integer.bitCount(masks[row]);
            }
            return sum;
        }

        /** The first row with a knot from a row on, or -1. */
        int firstKnottedRow(int from) {
            for (int row = from; row < count; row++) {
                if (knots[row] != 0) {
                    return row;
                }
            }
            return -1;
        }

        /** The last row with a knot, or -1. */
        int lastKnottedRow() {
            int row = count - 1;
            while (row >= 0 && knots[row] == 0) {
                row--;
            }
            return row;
        }

        int firstKnottedColumn(int row) {
            int column = 0;
            while (column < COLUMNS - 1 && !knottedAt(row, column)) {
                column++;
            }
            return column;
        }

        private boolean sameRows(int row, int other) {
            return masks[row] == masks[other] && colours[row] == colours[other];
        }

        private boolean sameRuns(int start, int other, int rows) {
            for (int i = 0; i < rows; i++) {
                if (!sameRows(start + i, other + i)) {
                    return false;
                }
            }
            return true;
        }

        boolean overlapsItself(int shift) {
            for (int row = shift; row < count; row++) {
                if (!sameRows(row, row - shift)) {
                    return false;
                }
            }
            return true;
        }

        int longestBorder() {
            int length = count - 1;
            while (length > 0 && !sameRuns(0, count - length, length)) {
                length--;
            }
            return length;
        }

        int countOfLast(int rows) {
            int end = count - rows;
            int found = 0;
            for (int start = 0; start <= end; start++) {
                if (sameRuns(start, end, rows)) {
                    found++;
                }
            }
            return found;
        }

        int countDifferent() {
            int different = 0;
            for (int row = 0; row < count; row++) {
                if (isNew(row)) {
                    different++;
                }
            }
            return different;
        }

        private boolean isNew(int row) {
            for (int earlier = 0; earlier < row; earlier++) {
                if (sameRows(earlier, row)) {
                    return false;
                }
            }
            return true;
        }

        int longestRaisedRun(int column) {
            int longest = 0;
            int run = 0;
            for (int row = 0; row < count; row++) {
                run = raisedAt(row, column) ? run + 1 : 0;
                longest = Math.max(longest, run);
            }
            return longest;
        }

        boolean sameReversed() {
            for (int row = 0; row < count; row++) {
                if (!sameRows(row, count - 1 - row)) {
                    return false;
                }
            }
            return true;
        }
    }

    /** The latest changes, each as the loom was before it; the oldest makes room for a new one. */
    private static final class History {
        private final Loom[] kept = new Loom[MAX_UNDO];
        private int oldest;
        int count;

        History() {
            for (int i = 0; i < MAX_UNDO; i++) {
                kept[i] = new Loom();
            }
        }

        void keep(Loom loom) {
            kept[(oldest + count) % MAX_UNDO].copyFrom(loom);
            if (count < MAX_UNDO) {
                count++;
            } else {
                oldest = (oldest + 1) % MAX_UNDO;
            }
        }

        void takeBack(Loom loom) {
            count--;
            loom.copyFrom(kept[(oldest + count) % MAX_UNDO]);
        }

        void forget() {
            count = 0;
        }
    }

    /** The text buffer, and the commands that were read from it. */
    private static final class Script {
        private final char[] signs = new char[MAX_TEXT];
        private int length;
        final Command[] commands = new Command[MAX_COMMANDS];
        int found;
        // While parsing, the next character; afterwards, the fault position if there is a fault.
        int position;

        Script() {
            for (int i = 0; i < MAX_COMMANDS; i++) {
                commands[i] = new Command();
            }
        }

        boolean isFull() {
            return length >= MAX_TEXT;
        }

        int append(char sign) {
            signs[length] = sign;
            length++;
            return length;
        }

        /** Empties the buffer; the commands that were read from it stay. */
        void clear() {
            length = 0;
        }

        boolean parse() {
            position = 0;
            found = 0;
            boolean more = true;
            while (more && found < MAX_COMMANDS) {
                if (!readCommand(commands[found])) {
                    return false;
                }
                found++;
                more = readSign(';');
            }
            return !more && position == length;
        }

        private boolean readCommand(Command command) {
            Kind kind = readWord();
            if (kind == null) {
                return false;
            }
            command.become(kind, 0, 0, 0);
            int slot = 0;
            for (int i = 0; i < kind.form.length(); i++) {
                char part = kind.form.charAt(i);
                if (part == ' ') {
                    if (!readSign(' ')) {
                        return false;
                    }
                } else {
                    int value = part == 's' ? readSide() : readDigits(part - '0');
                    if (value < 0) {
                        return false;
                    }
                    command.put(slot, value);
                    slot++;
                }
            }
            return true;
        }

        /** Reads the word of a command; at a fault, stops behind what begins a word. */
        private Kind readWord() {
            int longest = 0;
            for (int i = 0; i < KINDS.length; i++) {
                int same = countSame(KINDS[i].word);
                if (same == KINDS[i].word.length()) {
                    position += same;
                    return KINDS[i];
                }
                longest = Math.max(longest, same);
            }
            position += longest;
            return null;
        }

        private int countSame(String word) {
            int same = 0;
            while (same < word.length() && position + same < length
                    && word.charAt(same) == signs[position + same]) {
                same++;
            }
            return same;
        }

        /** Reads a number of one to so many digits; -1 if there is none here. */
        private int readDigits(int most) {
            int value = 0;
            int digits = 0;
            while (digits < most && digitIsNext()) {
                value = value * 10 + (signs[position] - '0');
                position++;
                digits++;
            }
            return digits == 0 ? -1 : value;
        }

        private boolean digitIsNext() {
            return position < length && signs[position] >= '0' && signs[position] <= '9';
        }

        /** Reads a side; -1 if there is none here. */
        private int readSide() {
            if (readSign('l')) {
                return 'l';
            }
            return readSign('r') ? 'r' : -1;
        }

        private boolean readSign(char sign) {
            if (position < length && signs[position] == sign) {
                position++;
                return true;
            }
            return false;
        }
    }

    /** The output line. */
    private static final class Line {
        final char[] signs = new char[LONGEST_LINE];
        int length;

        void showRow(Cloth cloth, int row) {
            length = 0;
            addDigit(cloth.colours[row]);
            add(':');
            for (int column = 0; column < COLUMNS; column++) {
                add(cellSign(cloth.raisedAt(row, column), cloth.knottedAt(row, column)));
            }
        }

        void showWicks(Wicks wicks) {
            length = 0;
            for (int i = 0; i < wicks.count; i++) {
                if (i > 0) {
                    add(',');
                }
                add(wicks.lit[i] ? '*' : '-');
                addDigit(wicks.colours[i]);
                add('=');
                if (wicks.waxes[i] >= 10) {
                    addDigit(wicks.waxes[i] / 10);
                }
                addDigit(wicks.waxes[i] % 10);
            }
        }

        private static char cellSign(boolean raised, boolean knotted) {
            if (raised) {
                return knotted ? 'X' : 'x';
            }
            return knotted ? 'o' : '.';
        }

        private void addDigit(int digit) {
            add((char) ('0' + digit));
        }

        private void add(char sign) {
            if (length < LONGEST_LINE) {
                signs[length] = sign;
                length++;
            }
        }
    }
}
