import java.util.function.Supplier;

/** Long runs of calls, compared with the model call by call. */
public final class ModelTest {
    private static final int RUNS = 3000;
    private static final int CALLS = 512;

    private long seed;
    private CandleLoom loom = new CandleLoom();
    private Model model = new Model();
    private int calls;
    private final StringBuilder trace = new StringBuilder();

    private ModelTest(long seed) {
        this.seed = seed;
    }

    public static void main(String[] args) {
        Check.watch();
        for (int run = 0; run < RUNS; run++) {
            ModelTest test = new ModelTest(run);
            boolean same = run % 5 != 4 || test.begin();
            while (same && test.calls < CALLS) {
                same = test.step(run % 4);
            }
            if (!same) {
                System.out.println("run " + run + ": " + test.trace);
                System.exit(1);
            }
        }
    }

    private int below(int bound) {
        seed = seed * 6364136223846793005L + 1442695040888963407L;
        return (int) ((seed >>> 33) % bound);
    }

    private int around(int low, int high) {
        return below(20) == 0 ? (below(2) == 0 ? low - 1 : high + 1) : low + below(high - low + 1);
    }

    private char side() {
        return below(20) == 0 ? 'x' : below(2) == 0 ? 'l' : 'r';
    }

    private static Object answer(Supplier<Object> call) {
        try {
            return call.get();
        } catch (RuntimeException e) {
            return e.getClass();
        }
    }

    private boolean agree(String what, Supplier<Object> ours, Supplier<Object> due) {
        // What a loom answers after so many calls is free.
        if (calls == CALLS) {
            return true;
        }
        Object got = answer(ours);
        Object want = answer(due);
        calls++;
        trace.append(what).append(" -> ").append(got).append('\n');
        if (!got.equals(want)) {
            trace.append("due is ").append(want);
            return false;
        }
        return true;
    }

    private int row() {
        return around(0, Math.max(0, model.rowCount() - 1));
    }

    private int wick() {
        return around(0, Math.max(0, model.wickCount() - 1));
    }

    private int mask() {
        int[] masks = {1, 32768, 32769, 65535, 3, 2, 6, 65535, 1 + below(65535)};
        return around(0, 30) < 1 ? 0 : masks[below(masks.length)];
    }

    /** A cloth with rows, so that the run asks less of an empty one. */
    private boolean begin() {
        boolean same = true;
        for (int i = 0; same && i < 3; i++) {
            int wick = i;
            int colour = below(8);
            int mask = 1 + below(65535);
            same = agree("addWick " + colour + " " + mask + " 99",
                    () -> loom.addWick(colour, mask, 99), () -> model.addWick(colour, mask, 99))
                    && agree("light " + wick, () -> loom.light(wick), () -> model.light(wick));
        }
        for (int i = 0; same && i < 2; i++) {
            int rows = 1 + below(10);
            same = agree("weave " + rows, () -> loom.weave(rows), () -> model.weave(rows));
        }
        return same;
    }

    private boolean step(int mood) {
        int choice = below(100);
        if (choice < 35) {
            return change(below(10), mood);
        }
        if (choice < 42) {
            return text();
        }
        if (choice < 46) {
            return past(below(mood == 0 ? 6 : 12));
        }
        if (choice < 54) {
            return denials() && lines();
        }
        return ask(below(25));
    }

    private boolean change(int choice, int mood) {
        switch (choice) {
            case 0: {
                int colour = around(0, 7);
                int mask = mask();
                int wax = below(3) == 0 ? below(4) : around(0, 99);
                return agree("addWick " + colour + " " + mask + " " + wax,
                        () -> loom.addWick(colour, mask, wax), () -> model.addWick(colour, mask, wax));
            }
            case 1: {
                int wick = wick();
                return agree("light " + wick, () -> loom.light(wick), () -> model.light(wick));
            }
            case 2: {
                int wick = wick();
                if (mood != 1 && below(2) == 0) {
                    return agree("light " + wick, () -> loom.light(wick), () -> model.light(wick));
                }
                return agree("snuff " + wick, () -> loom.snuff(wick), () -> model.snuff(wick));
            }
            case 3: {
                int wick = wick();
                int wax = below(2) == 0 ? 1 + below(5) : around(1, 50);
                return agree("addWax " + wick + " " + wax,
                        () -> loom.addWax(wick, wax), () -> model.addWax(wick, wax));
            }
            case 4: {
                int rows = mood == 2 ? around(1, 10) : around(1, 3);
                return agree("weave " + rows, () -> loom.weave(rows), () -> model.weave(rows));
            }
            case 5: {
                int rows = below(2) == 0 ? around(1, 10) : 1 + below(3);
                return agree("ravel " + rows, () -> loom.ravel(rows), () -> model.ravel(rows));
            }
            case 6: {
                int rows = below(2) == 0 ? around(1, 20) : 1 + below(3);
                int times = below(2) == 0 ? around(1, 9) : 1;
                return agree("repeatLast " + rows + " " + times,
                        () -> loom.repeatLast(rows, times), () -> model.repeatLast(rows, times));
            }
            case 7: {
                int row = row();
                int column = around(0, 15);
                return agree("knot " + row + " " + column,
                        () -> loom.knot(row, column), () -> model.knot(row, column));
            }
            case 8: {
                // Most often a cell that is knotted, or the knots would only grow.
                boolean first = below(10) != 0 && !model.state.knots.isEmpty();
                int row = first ? model.state.knots.last().row() : row();
                int column = first ? model.state.knots.last().column() : around(0, 15);
                return agree("untie " + row + " " + column,
                        () -> loom.untie(row, column), () -> model.untie(row, column));
            }
            default: {
                char side = side();
                return agree("mend " + side, () -> loom.mend(side), () -> model.mend(side));
            }
        }
    }

    private String command() {
        switch (below(10)) {
            case 0:
                return "wick " + below(8) + " " + mask() + " " + below(100);
            case 1:
                return "light " + Math.max(0, wick());
            case 2:
                return "snuff " + Math.max(0, wick());
            case 3:
                return "wax " + Math.max(0, wick()) + " " + around(1, 20);
            case 4:
                return "weave " + around(1, 5);
            case 5:
                return "ravel " + around(1, 4);
            case 6:
                return "repeat " + around(1, 3) + " " + around(1, 3);
            case 7:
                return "knot " + Math.max(0, row()) + " " + around(0, 15);
            case 8:
                return "untie " + Math.max(0, row()) + " " + around(0, 15);
            default:
                return "mend " + side();
        }
    }

    private boolean text() {
        StringBuilder text = new StringBuilder(command());
        while (below(3) != 0) {
            text.append(';').append(command());
        }
        if (below(5) == 0) {
            int at = below(text.length());
            String odd = "wlsrkum0519 ;;xieavgt-";
            switch (below(3)) {
                case 0 -> text.setLength(at);
                case 1 -> text.deleteCharAt(at);
                default -> text.insert(at, odd.charAt(below(odd.length())));
            }
        }
        boolean same = true;
        for (int i = 0; same && i < text.length(); i++) {
            char sign = text.charAt(i);
            same = agree("feed " + sign, () -> loom.feed(sign), () -> model.feed(sign));
        }
        return same && agree("execute", () -> loom.execute(), () -> model.execute()) && denials()
                && agree("faultPosition", () -> loom.faultPosition(), () -> model.faultPosition());
    }

    private boolean past(int choice) {
        if (choice < 6) {
            return agree("undo", () -> loom.undo(), () -> model.undo());
        }
        if (choice < 10) {
            return agree("undoCount", () -> loom.undoCount(), () -> model.past.size());
        }
        return choice < 11 ? agree("saveSnapshot", () -> loom.saveSnapshot(), () -> model.saveSnapshot())
                : agree("restoreSnapshot", () -> loom.restoreSnapshot(), () -> model.restoreSnapshot());
    }

    private boolean denials() {
        return agree("denial", () -> loom.denial(), () -> model.denial())
                && agree("denialDetail", () -> loom.denialDetail(), () -> model.denialDetail())
                && agree("denialCause", () -> loom.denialCause(), () -> model.denialCause());
    }

    private boolean lines() {
        int row = row();
        boolean same = below(2) == 0
                ? agree("writeRow " + row, () -> loom.writeRow(row), () -> model.writeRow(row))
                : agree("writeWicks", () -> loom.writeWicks(), () -> model.writeWicks());
        for (int i = -1; same && i <= model.line.length(); i++) {
            int index = i;
            same = agree("lineCharacter " + i, () -> loom.lineCharacter(index), () -> model.lineCharacter(index));
        }
        return same;
    }

    private boolean ask(int choice) {
        int row = row();
        int other = row();
        int wick = wick();
        int column = around(0, 15);
        char side = side();
        switch (choice) {
            case 0:
                return agree("wickCount", () -> loom.wickCount(), () -> model.wickCount())
                        && agree("litCount", () -> loom.litCount(), () -> model.litCount());
            case 1:
                return agree("isLit " + wick, () -> loom.isLit(wick), () -> model.isLit(wick));
            case 2:
                return agree("wax " + wick, () -> loom.wax(wick), () -> model.wax(wick));
            case 3:
            case 4:
                return agree("wickByWax " + wick, () -> loom.wickByWax(wick), () -> model.wickByWax(wick));
            case 5:
                return agree("nextMask", () -> loom.nextMask(), () -> model.nextMask());
            case 6:
                return agree("rowsUntilDark", () -> loom.rowsUntilDark(), () -> model.rowsUntilDark());
            case 7:
                return agree("rowsUntilDarkByWax",
                        () -> loom.rowsUntilDarkByWax(), () -> model.rowsUntilDark());
            case 8:
                return agree("rowCount", () -> loom.rowCount(), () -> model.rowCount());
            case 9:
                return agree("rowMask " + row, () -> loom.rowMask(row), () -> model.rowMask(row));
            case 10:
                return agree("rowColour " + row, () -> loom.rowColour(row), () -> model.rowColour(row));
            case 11:
                return agree("isRaised " + row + " " + column,
                        () -> loom.isRaised(row, column), () -> model.isRaised(row, column));
            case 12:
                return agree("isKnotted " + row + " " + column,
                        () -> loom.isKnotted(row, column), () -> model.isKnotted(row, column))
                        && agree("knotCount", () -> loom.knotCount(), () -> model.knotCount());
            case 13:
                return agree("nextKnotRow " + row,
                        () -> loom.nextKnotRow(row), () -> model.nextKnotRow(row));
            case 14:
                return agree("nextKnotColumn " + row,
                        () -> loom.nextKnotColumn(row), () -> model.nextKnotColumn(row));
            case 15:
                return agree("burn " + side, () -> loom.burn(side), () -> model.burn(side));
            case 16:
                return agree("heat " + side, () -> loom.heat(side), () -> model.heat(side));
            case 17:
                return agree("period", () -> loom.period(), () -> model.period())
                        && agree("periodByBorders", () -> loom.periodByBorders(), () -> model.period());
            case 18: {
                int rows = around(1, Math.max(1, model.rowCount()));
                return agree("occurrences " + rows,
                        () -> loom.occurrences(rows), () -> model.occurrences(rows));
            }
            case 19:
                return agree("distinctRows", () -> loom.distinctRows(), () -> model.distinctRows());
            case 20:
                return agree("distance " + row + " " + other,
                        () -> loom.distance(row, other), () -> model.distance(row, other));
            case 21:
                return agree("longestFloat " + column,
                        () -> loom.longestFloat(column), () -> model.longestFloat(column));
            case 22:
                return agree("isSymmetric", () -> loom.isSymmetric(), () -> model.isSymmetric());
            case 23:
                return agree("wovenTotal", () -> loom.wovenTotal(), () -> model.state.woven)
                        && agree("waxUsed", () -> loom.waxUsed(), () -> model.state.used);
            default:
                return agree("meanRaised", () -> loom.meanRaised(), () -> model.meanRaised())
                        && agree("knotShare", () -> loom.knotShare(), () -> model.knotShare());
        }
    }
}
