import java.util.Arrays;

/** A rung of a ladder: a grid of cells that lets power through from a rail on the left to coils on the right. */
public final class LadderGrid {
    public static final int BAD = -1;

    private static final int MOST_ROWS = 12;
    private static final int MOST_COLUMNS = 12;
    private static final int MOST_LINES = MOST_COLUMNS + 1;
    private static final int VARIABLES = 40;

    private static final int GAP = 0;
    private static final int WIRE = 1;
    private static final int CONTACT = 2;
    private static final int NEGATED_CONTACT = 3;
    private static final int RISING = 4;
    private static final int FALLING = 5;
    private static final int COIL = 6;
    private static final int NEGATED_COIL = 7;
    private static final int SET_COIL = 8;
    private static final int RESET_COIL = 9;

    /** By kind: what a contact adds to its term, and what a coil takes. */
    private static final int[] KIND_STEPS = {0, 0, 2, 3, 7, 7, 2, 3, 4, 5};

    private final int[] kinds;
    private final int[] cellVariables;
    /** Of each cell its variable's value in the cell's last scan; 0 before the first one. */
    private final int[] seen;
    /** 1 where a row is linked with the next one at a line. */
    private final int[] links;
    private final int[] powered;
    private final int[] values;
    private int rows;
    private int columns;
    /** Whether powered tells of the rung as it is now. */
    private boolean scanned;

    public LadderGrid() {
        kinds = new int[MOST_ROWS * MOST_COLUMNS];
        cellVariables = new int[MOST_ROWS * MOST_COLUMNS];
        seen = new int[MOST_ROWS * MOST_COLUMNS];
        links = new int[MOST_ROWS * MOST_LINES];
        powered = new int[MOST_ROWS * MOST_LINES];
        values = new int[VARIABLES];
        rows = 1;
        columns = 1;
        scanned = false;
    }

    public int begin(int r, int c) {
        if (r < 1 || r > MOST_ROWS || c < 1 || c > MOST_COLUMNS) {
            return BAD;
        }
        rows = r;
        columns = c;
        Arrays.fill(kinds, GAP);
        Arrays.fill(cellVariables, 0);
        Arrays.fill(seen, 0);
        Arrays.fill(links, 0);
        scanned = false;
        return 0;
    }

    public int cell(int row, int column, int kind, int variable) {
        if (!isRow(row) || column < 0 || column >= columns || kind < GAP || kind > RESET_COIL) {
            return BAD;
        }
        if (hasVariable(kind) && !isVariable(variable)) {
            return BAD;
        }
        if (isCoil(kind) && column != columns - 1) {
            return BAD;
        }
        int cell = cellAt(row, column);
        int before = kinds[cell];
        kinds[cell] = kind;
        cellVariables[cell] = hasVariable(kind) ? variable : 0;
        seen[cell] = 0;
        scanned = false;
        return before;
    }

    public int link(int row, int line, boolean is) {
        // Not row + 1 < rows, which the greatest int would pass by wrapping round.
        if (row < 0 || row >= rows - 1 || line < 1 || line >= columns) {
            return BAD;
        }
        int point = pointAt(row, line);
        int before = links[point];
        links[point] = is ? 1 : 0;
        scanned = false;
        return before;
    }

    public int set(int variable, int value) {
        if (!isVariable(variable) || value < 0 || value > 1) {
            return BAD;
        }
        int before = values[variable];
        values[variable] = value;
        return before;
    }

    public int get(int variable) {
        return isVariable(variable) ? values[variable] : BAD;
    }

    public int scan() {
        for (int row = 0; row < rows; row++) {
            powered[pointAt(row, 0)] = 1;
        }
        for (int column = 0; column < columns; column++) {
            passColumn(column);
            shareAlongLinks(column + 1);
        }
        scanned = true;
        return driveCoils();
    }

    public int power(int row, int line) {
        if (!isRow(row) || !isLine(line) || !scanned) {
            return BAD;
        }
        if (line == columns && isCoil(kinds[cellAt(row, columns - 1)])) {
            return BAD;
        }
        return powered[pointAt(row, line)];
    }

    public int steps() {
        int sum = 0;
        for (int line = 1; line <= columns; line++) {
            sum += lineSteps(line);
        }
        return sum + coilSteps();
    }

    public int groups(int line) {
        if (!isLine(line)) {
            return BAD;
        }
        // Each link joins two groups into one; lines 0 and c never have a link.
        int count = rows;
        for (int row = 0; row < rows; row++) {
            count -= links[pointAt(row, line)];
        }
        return count;
    }

    private void passColumn(int column) {
        for (int row = 0; row < rows; row++) {
            int cell = cellAt(row, column);
            int value = values[cellVariables[cell]];
            boolean through = powered[pointAt(row, column)] == 1 && letsThrough(kinds[cell], value, seen[cell]);
            powered[pointAt(row, column + 1)] = through ? 1 : 0;
            // A cell is scanned whether power comes to it or not.
            seen[cell] = value;
        }
    }

    /** Down and then up again: so power comes to every row of a group from any of its rows. */
    private void shareAlongLinks(int line) {
        for (int row = 0; row < rows - 1; row++) {
            if (links[pointAt(row, line)] == 1 && powered[pointAt(row, line)] == 1) {
                powered[pointAt(row + 1, line)] = 1;
            }
        }
        for (int row = rows - 2; row >= 0; row--) {
            if (links[pointAt(row, line)] == 1 && powered[pointAt(row + 1, line)] == 1) {
                powered[pointAt(row, line)] = 1;
            }
        }
    }

    /** Only behind all columns, since contacts go by the variables from before the scan. */
    private int driveCoils() {
        int count = 0;
        for (int row = 0; row < rows; row++) {
            int cell = cellAt(row, columns - 1);
            if (isCoil(kinds[cell])) {
                int p = powered[pointAt(row, columns - 1)];
                int variable = cellVariables[cell];
                values[variable] = coilValue(kinds[cell], p, values[variable]);
                count += p;
            }
        }
        return count;
    }

    private int lineSteps(int line) {
        int sum = 0;
        int terms = 0;
        for (int row = 0; row < rows; row++) {
            int kind = kinds[cellAt(row, line - 1)];
            if (isCoil(kind)) {
                continue;
            }
            if (kind != GAP) {
                sum += 1 + KIND_STEPS[kind];
                terms++;
            }
            boolean groupEnds = links[pointAt(row, line)] == 0;
            if (groupEnds) {
                sum += joiningSteps(terms) + 1;
                terms = 0;
            }
        }
        return sum;
    }

    private int coilSteps() {
        int sum = 0;
        for (int row = 0; row < rows; row++) {
            int kind = kinds[cellAt(row, columns - 1)];
            if (isCoil(kind)) {
                sum += KIND_STEPS[kind];
            }
        }
        return sum;
    }

    private boolean isRow(int row) {
        return row >= 0 && row < rows;
    }

    private boolean isLine(int line) {
        return line >= 0 && line <= columns;
    }

    private static int joiningSteps(int terms) {
        return terms == 0 ? 1 : terms - 1;
    }

    private static boolean letsThrough(int kind, int value, int seenValue) {
        switch (kind) {
            case WIRE:
                return true;
            case CONTACT:
                return value == 1;
            case NEGATED_CONTACT:
                return value == 0;
            case RISING:
                return value == 1 && seenValue == 0;
            case FALLING:
                return value == 0 && seenValue == 1;
            default:
                return false;
        }
    }

    private static int coilValue(int kind, int p, int before) {
        switch (kind) {
            case COIL:
                return p;
            case NEGATED_COIL:
                return 1 - p;
            case SET_COIL:
                return p == 1 ? 1 : before;
            default:
                return p == 1 ? 0 : before;
        }
    }

    private static boolean isVariable(int variable) {
        return variable >= 0 && variable < VARIABLES;
    }

    private static boolean hasVariable(int kind) {
        return kind >= CONTACT;
    }

    private static boolean isCoil(int kind) {
        return kind >= COIL;
    }

    private static int cellAt(int row, int column) {
        return row * MOST_COLUMNS + column;
    }

    /** Where a row meets a line. */
    private static int pointAt(int row, int line) {
        return row * MOST_LINES + line;
    }
}
