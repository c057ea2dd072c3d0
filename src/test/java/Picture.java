import java.util.function.Supplier;

/**
 * What can be asked of a loom without changing it, as one text to compare. Of a long cloth
 * only the first and last rows are asked, as a loom answers at most 512 calls.
 */
final class Picture {
    private static final int ROWS_AT_AN_END = 3;

    private Picture() {
    }

    /** All but the latest denial. */
    static String of(CandleLoom loom) {
        StringBuilder picture = new StringBuilder();
        for (int i = 0; i < loom.wickCount(); i++) {
            picture.append(loom.isLit(i) ? '*' : '-').append(loom.wax(i)).append(' ');
        }
        picture.append(loom.nextMask()).append("\n");
        int rows = loom.rowCount();
        for (int row = 0; row < rows; row++) {
            if (row < ROWS_AT_AN_END || row >= rows - ROWS_AT_AN_END) {
                picture.append(row).append(": ").append(rowOf(loom, row)).append('\n');
            }
        }
        picture.append(loom.knotCount()).append(" knots, burns ")
                .append(loom.burn('l')).append(' ').append(loom.burn('r')).append(", heats ")
                .append(loom.heat('l')).append(' ').append(loom.heat('r')).append(", totals ")
                .append(loom.wovenTotal()).append(' ').append(loom.waxUsed()).append(", undo ")
                .append(loom.undoCount()).append('\n');
        return picture.append("fault ").append(answer(() -> loom.faultPosition())).append('\n')
                .append(lineOf(loom)).toString();
    }

    /** The latest denial. */
    static String denial(CandleLoom loom) {
        return answer(() -> loom.denial()) + " " + answer(() -> loom.denialDetail()) + " "
                + answer(() -> loom.denialCause());
    }

    private static String rowOf(CandleLoom loom, int row) {
        StringBuilder picture = new StringBuilder();
        picture.append(loom.rowColour(row)).append(' ').append(loom.rowMask(row)).append(' ');
        for (int column = 0; column < 16; column++) {
            picture.append(loom.isKnotted(row, column) ? 'o' : '.');
        }
        return picture.toString();
    }

    private static String lineOf(CandleLoom loom) {
        StringBuilder line = new StringBuilder();
        String sign = sign(loom, 0);
        // The longest line is that of eight wicks: 47 characters.
        while (!sign.equals("none") && line.length() <= 47) {
            line.append(sign);
            sign = sign(loom, line.length());
        }
        return line.toString();
    }

    private static String sign(CandleLoom loom, int index) {
        return answer(() -> loom.lineCharacter(index));
    }

    private static String answer(Supplier<Object> call) {
        try {
            return call.get().toString();
        } catch (RuntimeException e) {
            return "none";
        }
    }
}
