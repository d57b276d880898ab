import java.util.ArrayList;
import java.util.List;

// Long runs of calls, compared with a model that writes the plan out as instructions for a stack machine and
// executes them: so the number of steps and the power that the steps give are tested by one another.
public final class LadderGridAgainstPlan {
    private static final int RUNS = 3000;
    private static final int CALLS = 512;
    private static final int BAD = -1;
    private static long state = 20261115L;

    /** The same numbers in every run of the test. */
    private static int below(int bound) {
        state = state * 6364136223846793005L + 1442695040888963407L;
        return (int) ((state >>> 33) % bound);
    }

    private enum Op { FALSE, TRUE, POWER, STORE_POWER, VARIABLE, STORE_VARIABLE, MEMORY, STORE_MEMORY, NOT, AND, OR }

    private record Step(Op op, int at) { }

    private static final class Cell {
        int kind = 0;
        int variable = 0;
        boolean memory = false;
    }

    private static final class Model {
        final boolean[] variables = new boolean[40];
        int r;
        int c;
        Cell[][] cells;
        boolean[][] linked;
        boolean[] groupPower;
        boolean fresh;

        Model() {
            begin(1, 1);
        }

        int begin(int rows, int columns) {
            if (rows < 1 || rows > 12 || columns < 1 || columns > 12) {
                return BAD;
            }
            r = rows;
            c = columns;
            cells = new Cell[r][c];
            for (Cell[] row : cells) {
                for (int column = 0; column < c; column++) {
                    row[column] = new Cell();
                }
            }
            linked = new boolean[r][c + 1];
            groupPower = new boolean[r * (c + 1)];
            fresh = false;
            return 0;
        }

        int cell(int row, int column, int kind, int variable) {
            if (row < 0 || row >= r || column < 0 || column >= c || kind < 0 || kind > 9) {
                return BAD;
            }
            if (kind > 1 && (variable < 0 || variable > 39) || kind > 5 && column + 1 != c) {
                return BAD;
            }
            int was = cells[row][column].kind;
            Cell cell = new Cell();
            cell.kind = kind;
            cell.variable = variable;
            cells[row][column] = cell;
            fresh = false;
            return was;
        }

        int link(int row, int line, boolean is) {
            if (row < 0 || row > r - 2 || line < 1 || line > c - 1) {
                return BAD;
            }
            int was = linked[row][line] ? 1 : 0;
            linked[row][line] = is;
            fresh = false;
            return was;
        }

        int set(int variable, int value) {
            int was = get(variable);
            if (was == BAD || value != 0 && value != 1) {
                return BAD;
            }
            variables[variable] = value == 1;
            return was;
        }

        int get(int variable) {
            return variable < 0 || variable > 39 ? BAD : variables[variable] ? 1 : 0;
        }

        boolean isCoil(int row) {
            return cells[row][c - 1].kind > 5;
        }

        /** The least row of the group, by whose number the group's power is held. */
        int group(int row, int line) {
            int least = row;
            while (least > 0 && linked[least - 1][line]) {
                least--;
            }
            return least * (c + 1) + line;
        }

        void load(List<Step> plan, int row, int line) {
            plan.add(line == 0 ? new Step(Op.TRUE, 0) : new Step(Op.POWER, group(row, line)));
        }

        void term(List<Step> plan, int row, int column) {
            Cell cell = cells[row][column];
            int memory = row * c + column;
            load(plan, row, column);
            if (cell.kind == 2 || cell.kind == 3) {
                plan.add(new Step(Op.VARIABLE, cell.variable));
                if (cell.kind == 3) {
                    plan.add(new Step(Op.NOT, 0));
                }
                plan.add(new Step(Op.AND, 0));
            }
            if (cell.kind == 4 || cell.kind == 5) {
                plan.add(new Step(cell.kind == 4 ? Op.VARIABLE : Op.MEMORY, cell.kind == 4 ? cell.variable : memory));
                plan.add(new Step(cell.kind == 4 ? Op.MEMORY : Op.VARIABLE, cell.kind == 4 ? memory : cell.variable));
                plan.add(new Step(Op.NOT, 0));
                plan.add(new Step(Op.AND, 0));
                plan.add(new Step(Op.AND, 0));
                plan.add(new Step(Op.VARIABLE, cell.variable));
                plan.add(new Step(Op.STORE_MEMORY, memory));
            }
        }

        void coil(List<Step> plan, int row) {
            int kind = cells[row][c - 1].kind;
            int variable = cells[row][c - 1].variable;
            load(plan, row, c - 1);
            if (kind == 7 || kind == 9) {
                plan.add(new Step(Op.NOT, 0));
            }
            if (kind == 8 || kind == 9) {
                plan.add(new Step(Op.VARIABLE, variable));
                plan.add(new Step(kind == 8 ? Op.OR : Op.AND, 0));
            }
            plan.add(new Step(Op.STORE_VARIABLE, variable));
        }

        List<Step> plan() {
            List<Step> plan = new ArrayList<>();
            for (int line = 1; line <= c; line++) {
                int row = 0;
                while (row < r) {
                    int least = row;
                    int terms = 0;
                    boolean more = true;
                    while (more) {
                        if (cells[row][line - 1].kind >= 1 && cells[row][line - 1].kind <= 5) {
                            term(plan, row, line - 1);
                            terms++;
                            if (terms > 1) {
                                plan.add(new Step(Op.OR, 0));
                            }
                        }
                        more = linked[row][line];
                        row++;
                    }
                    if (line == c && isCoil(least)) {
                        continue;
                    }
                    if (terms == 0) {
                        plan.add(new Step(Op.FALSE, 0));
                    }
                    plan.add(new Step(Op.STORE_POWER, least * (c + 1) + line));
                }
            }
            for (int row = 0; row < r; row++) {
                if (isCoil(row)) {
                    coil(plan, row);
                }
            }
            return plan;
        }

        void execute(List<Step> plan) {
            boolean[] stack = new boolean[8];
            int top = 0;
            for (Step step : plan) {
                int at = step.at();
                switch (step.op()) {
                    case FALSE -> stack[top++] = false;
                    case TRUE -> stack[top++] = true;
                    case POWER -> stack[top++] = groupPower[at];
                    case STORE_POWER -> groupPower[at] = stack[--top];
                    case VARIABLE -> stack[top++] = variables[at];
                    case STORE_VARIABLE -> variables[at] = stack[--top];
                    case MEMORY -> stack[top++] = cells[at / c][at % c].memory;
                    case STORE_MEMORY -> cells[at / c][at % c].memory = stack[--top];
                    case NOT -> stack[top - 1] = !stack[top - 1];
                    case AND -> {
                        top--;
                        stack[top - 1] = stack[top - 1] && stack[top];
                    }
                    case OR -> {
                        top--;
                        stack[top - 1] = stack[top - 1] || stack[top];
                    }
                }
            }
            if (top != 0) {
                throw new IllegalStateException("the plan leaves " + top + " on the stack");
            }
        }

        int scan() {
            execute(plan());
            fresh = true;
            int count = 0;
            for (int row = 0; row < r; row++) {
                if (isCoil(row) && power(row, c - 1) == 1) {
                    count++;
                }
            }
            return count;
        }

        int power(int row, int line) {
            if (row < 0 || row >= r || line < 0 || line > c || !fresh || line == c && isCoil(row)) {
                return BAD;
            }
            return line == 0 || groupPower[group(row, line)] ? 1 : 0;
        }

        int steps() {
            return plan().size();
        }

        int groups(int line) {
            if (line < 0 || line > c) {
                return BAD;
            }
            int count = 0;
            for (int row = 0; row < r; row++) {
                if (group(row, line) == row * (c + 1) + line) {
                    count++;
                }
            }
            return count;
        }
    }

    private static final int[] ODD = {Integer.MIN_VALUE, -2, -1, 12, 13, 39, 40, 41, 256, Integer.MAX_VALUE};

    /** Mostly a number below the bound; now and then the bound itself or one far off. */
    private static int argument(int bound) {
        int chance = below(40);
        return chance == 0 ? ODD[below(ODD.length)] : chance == 1 ? bound : below(bound);
    }

    private static final int[] WEIGHTED_KINDS = {0, 1, 1, 1, 2, 2, 3, 3, 4, 4, 5, 5};

    private static int kind(boolean last) {
        int chance = below(50);
        if (chance == 0) {
            return argument(11);
        }
        return last && chance < 40 ? 6 + below(4) : WEIGHTED_KINDS[below(WEIGHTED_KINDS.length)];
    }

    private static int wrong = 0;

    private static void due(int run, int call, String text, int got, int want) {
        if (got != want) {
            wrong++;
            if (wrong <= 20) {
                System.out.println("run " + run + ", call " + call + ": " + text + " answered " + got + ", due is " + want);
            }
        }
    }

    private static void change(int run, int i, LadderGrid x, Model m, int variables) {
        int choice = below(10);
        if (choice < 6) {
            int row = argument(m.r);
            int column = argument(m.c);
            int kind = kind(column == m.c - 1);
            int variable = argument(variables);
            due(run, i, "cell(" + row + ", " + column + ", " + kind + ", " + variable + ")",
                    x.cell(row, column, kind, variable), m.cell(row, column, kind, variable));
        } else {
            int row = argument(Math.max(1, m.r - 1));
            int line = 1 + argument(Math.max(1, m.c - 1));
            boolean is = below(4) != 0;
            due(run, i, "link(" + row + ", " + line + ", " + is + ")", x.link(row, line, is), m.link(row, line, is));
        }
    }

    private static void ask(int run, int i, LadderGrid x, Model m, int variables) {
        int choice = below(10);
        if (choice < 2) {
            int variable = argument(variables);
            int value = argument(2);
            due(run, i, "set(" + variable + ", " + value + ")", x.set(variable, value), m.set(variable, value));
        } else if (choice < 4) {
            int variable = argument(variables);
            due(run, i, "get(" + variable + ")", x.get(variable), m.get(variable));
        } else if (choice < 6) {
            due(run, i, "scan()", x.scan(), m.scan());
        } else if (choice < 8) {
            int row = argument(m.r);
            int line = argument(m.c + 1);
            due(run, i, "power(" + row + ", " + line + ")", x.power(row, line), m.power(row, line));
        } else if (choice < 9) {
            due(run, i, "steps()", x.steps(), m.steps());
        } else {
            int line = argument(m.c + 1);
            due(run, i, "groups(" + line + ")", x.groups(line), m.groups(line));
        }
    }

    private static void run(int run) {
        LadderGrid x = new LadderGrid();
        Model m = new Model();
        int size = 1 + below(12);
        int variables = 1 + below(40);
        int building = 0;
        for (int i = 0; i < CALLS; i++) {
            if (i % 200 == 1 || below(300) == 0) {
                int r = 1 + argument(size);
                int c = 1 + argument(size);
                due(run, i, "begin(" + r + ", " + c + ")", x.begin(r, c), m.begin(r, c));
                building = m.r * m.c;
            } else if (building > 0 || below(12) == 0) {
                building--;
                change(run, i, x, m, variables);
            } else {
                ask(run, i, x, m, variables);
            }
        }
    }

    public static void main(String[] args) {
        for (int run = 0; run < RUNS; run++) {
            run(run);
        }
        System.out.println(wrong == 0 ? "all answers are as due" : wrong + " answers are not as due");
        if (wrong != 0) {
            System.exit(1);
        }
    }
}
