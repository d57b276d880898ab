// Each promise of the document by itself: ordinary inputs, the edges that it names, and wrong inputs.
public final class LadderGridPromises {
    private static final int BAD = -1;
    private static final int[] WRONG = {Integer.MIN_VALUE, -1000, -1, 1000, Integer.MAX_VALUE};
    private static int wrong = 0;
    private static String part = "";

    private static void due(String call, int got, int want) {
        if (got != want) {
            wrong++;
            System.out.println(part + ": " + call + " answered " + got + ", due is " + want);
        }
    }

    private static LadderGrid rung(int r, int c) {
        LadderGrid x = new LadderGrid();
        due("begin(" + r + ", " + c + ")", x.begin(r, c), 0);
        return x;
    }

    /** One row of a cell before a coil of variable 39, so that the coil tells what the cell lets through. */
    private static LadderGrid tested(int kind, int variable) {
        LadderGrid x = rung(1, 2);
        due("cell(0, 0, ..)", x.cell(0, 0, kind, variable), 0);
        due("cell(0, 1, 6, 39)", x.cell(0, 1, 6, 39), 0);
        return x;
    }

    public static void main(String[] args) {
        newObject();
        begin();
        beginRefused();
        cell();
        cellRefused();
        cellForgetsItsScan();
        link();
        set();
        get();
        scanOfContacts();
        scanOfEdges();
        scanOfLinks();
        scanOfCoils();
        scanGoesByTheBeginning();
        power();
        powerOfLastLine();
        powerAfterChanges();
        stepsOfTerms();
        stepsOfGroups();
        stepsOfCoils();
        groups();
        System.out.println(wrong == 0 ? "all answers are as due" : wrong + " answers are not as due");
        if (wrong != 0) {
            System.exit(1);
        }
    }

    private static void newObject() {
        part = "promise 1";
        LadderGrid x = new LadderGrid();
        for (int v = 0; v < 40; v++) {
            due("get(" + v + ")", x.get(v), 0);
        }
        due("power(0, 0)", x.power(0, 0), BAD);
        due("steps()", x.steps(), 2);
        due("groups(0)", x.groups(0), 1);
        due("groups(1)", x.groups(1), 1);
        due("groups(2)", x.groups(2), BAD);
        due("link(0, 1, true)", x.link(0, 1, true), BAD);
        due("cell(1, 0, 1, 0)", x.cell(1, 0, 1, 0), BAD);
        due("cell(0, 1, 1, 0)", x.cell(0, 1, 1, 0), BAD);
        due("cell(0, 0, 6, 5)", x.cell(0, 0, 6, 5), 0);
        due("scan()", x.scan(), 1);
        due("get(5)", x.get(5), 1);
        due("get(5) of another", new LadderGrid().get(5), 0);
    }

    private static void begin() {
        part = "promise 2";
        for (int r = 1; r <= 12; r++) {
            for (int c = 1; c <= 12; c++) {
                LadderGrid x = rung(r, c);
                due("steps()", x.steps(), 2 * r * c);
                due("groups(c)", x.groups(c), r);
                due("groups(c + 1)", x.groups(c + 1), BAD);
                due("cell(r - 1, c - 1, 1, 0)", x.cell(r - 1, c - 1, 1, 0), 0);
                due("cell(r, 0, 1, 0)", x.cell(r, 0, 1, 0), BAD);
                due("cell(0, c, 1, 0)", x.cell(0, c, 1, 0), BAD);
            }
        }
        LadderGrid x = rung(12, 12);
        for (int row = 0; row < 12; row++) {
            for (int column = 0; column < 12; column++) {
                x.cell(row, column, 1, 0);
            }
            for (int line = 1; line < 12; line++) {
                x.link(row, line, true);
            }
        }
        x.set(7, 1);
        x.scan();
        due("begin(12, 12)", x.begin(12, 12), 0);
        due("get(7)", x.get(7), 1);
        due("power(0, 0)", x.power(0, 0), BAD);
        due("steps()", x.steps(), 288);
        for (int line = 0; line <= 12; line++) {
            due("groups(" + line + ")", x.groups(line), 12);
        }
        due("scan()", x.scan(), 0);
        due("power(11, 0)", x.power(11, 0), 1);
        due("power(11, 1)", x.power(11, 1), 0);
    }

    private static void beginRefused() {
        part = "promise 2, refused";
        LadderGrid x = rung(3, 4);
        x.cell(1, 1, 1, 0);
        x.link(1, 2, true);
        x.scan();
        int[] none = {Integer.MIN_VALUE, -1, 0, 13, 65537, Integer.MAX_VALUE};
        for (int n : none) {
            due("begin(" + n + ", 1)", x.begin(n, 1), BAD);
            due("begin(1, " + n + ")", x.begin(1, n), BAD);
            due("begin(" + n + ", " + n + ")", x.begin(n, n), BAD);
        }
        due("power(2, 0)", x.power(2, 0), 1);
        due("groups(2)", x.groups(2), 2);
        due("cell(1, 1, 0, 0)", x.cell(1, 1, 0, 0), 1);
        due("cell(2, 3, 0, 0)", x.cell(2, 3, 0, 0), 0);
        due("cell(3, 3, 0, 0)", x.cell(3, 3, 0, 0), BAD);
    }

    private static void cell() {
        part = "promise 3";
        LadderGrid x = rung(2, 3);
        for (int before = 0; before <= 9; before++) {
            for (int kind = 0; kind <= 9; kind++) {
                x.cell(1, 2, before, 39);
                due("cell(1, 2, " + kind + ", 0) behind " + before, x.cell(1, 2, kind, 0), before);
            }
        }
        x = rung(2, 3);
        for (int kind = 0; kind <= 5; kind++) {
            due("cell(0, 0, " + kind + ", 39)", x.cell(0, 0, kind, 39), kind == 0 ? 0 : kind - 1);
        }
        due("cell(0, 1, 0, 0)", x.cell(0, 1, 0, 0), 0);
        due("cell(1, 0, 0, 0)", x.cell(1, 0, 0, 0), 0);
        for (int number : WRONG) {
            due("cell(0, 1, 1, " + number + ")", x.cell(0, 1, 1, number), 0);
            due("cell(0, 1, 0, " + number + ")", x.cell(0, 1, 0, number), 1);
            due("cell(0, 1, 1, " + number + ")", x.cell(0, 1, 1, number), 0);
            due("scan()", x.scan(), 0);
            due("cell(0, 1, 0, 0)", x.cell(0, 1, 0, 0), 1);
        }
    }

    private static void cellRefused() {
        part = "promise 3, refused";
        LadderGrid x = rung(2, 3);
        x.cell(1, 1, 2, 3);
        x.cell(1, 2, 6, 4);
        x.scan();
        for (int n : WRONG) {
            due("cell(" + n + ", 1, 1, 0)", x.cell(n, 1, 1, 0), BAD);
            due("cell(1, " + n + ", 1, 0)", x.cell(1, n, 1, 0), BAD);
            due("cell(1, 1, " + n + ", 0)", x.cell(1, 1, n, 0), BAD);
        }
        due("cell(2, 1, 1, 0)", x.cell(2, 1, 1, 0), BAD);
        due("cell(1, 3, 1, 0)", x.cell(1, 3, 1, 0), BAD);
        due("cell(1, 2, 10, 0)", x.cell(1, 2, 10, 0), BAD);
        for (int kind = 2; kind <= 9; kind++) {
            due("cell(1, 2, " + kind + ", 40)", x.cell(1, 2, kind, 40), BAD);
            for (int n : WRONG) {
                due("cell(1, 2, " + kind + ", " + n + ")", x.cell(1, 2, kind, n), BAD);
            }
        }
        for (int kind = 6; kind <= 9; kind++) {
            due("cell(1, 1, " + kind + ", 0)", x.cell(1, 1, kind, 0), BAD);
            due("cell(1, 0, " + kind + ", 0)", x.cell(1, 0, kind, 0), BAD);
        }
        due("power(1, 0)", x.power(1, 0), 1);
        due("cell(1, 1, 0, 0)", x.cell(1, 1, 0, 0), 2);
        due("cell(1, 2, 0, 0)", x.cell(1, 2, 0, 0), 6);
    }

    private static void cellForgetsItsScan() {
        part = "promise 3, not scanned yet";
        LadderGrid x = tested(4, 0);
        x.set(0, 1);
        due("scan()", x.scan(), 1);
        due("scan()", x.scan(), 0);
        due("cell(0, 0, 4, 0)", x.cell(0, 0, 4, 0), 4);
        due("scan()", x.scan(), 1);
        due("cell(0, 0, 4, 40)", x.cell(0, 0, 4, 40), BAD);
        due("scan()", x.scan(), 0);

        x = tested(5, 0);
        x.set(0, 1);
        due("scan()", x.scan(), 0);
        x.set(0, 0);
        due("cell(0, 0, 5, 0)", x.cell(0, 0, 5, 0), 5);
        due("scan()", x.scan(), 0);

        x = tested(2, 0);
        x.set(0, 1);
        due("scan()", x.scan(), 1);
        due("cell(0, 0, 4, 0)", x.cell(0, 0, 4, 0), 2);
        due("scan()", x.scan(), 1);
        due("begin(1, 2)", x.begin(1, 2), 0);
        due("cell(0, 0, 4, 0)", x.cell(0, 0, 4, 0), 0);
        due("cell(0, 1, 6, 39)", x.cell(0, 1, 6, 39), 0);
        due("scan()", x.scan(), 1);
    }

    private static void link() {
        part = "promise 4";
        LadderGrid x = rung(12, 12);
        for (int row = 0; row <= 10; row++) {
            for (int line = 1; line <= 11; line++) {
                due("link(" + row + ", " + line + ", false)", x.link(row, line, false), 0);
                due("link(" + row + ", " + line + ", true)", x.link(row, line, true), 0);
                due("link(" + row + ", " + line + ", true)", x.link(row, line, true), 1);
            }
        }
        due("link(4, 5, false)", x.link(4, 5, false), 1);
        due("link(4, 5, false)", x.link(4, 5, false), 0);
        due("link(5, 5, true)", x.link(5, 5, true), 1);
        due("link(3, 5, true)", x.link(3, 5, true), 1);
        due("link(4, 4, true)", x.link(4, 4, true), 1);
        x.scan();
        due("link(11, 5, true)", x.link(11, 5, true), BAD);
        due("link(12, 5, true)", x.link(12, 5, true), BAD);
        due("link(5, 0, true)", x.link(5, 0, true), BAD);
        due("link(5, 12, true)", x.link(5, 12, true), BAD);
        due("link(5, 13, false)", x.link(5, 13, false), BAD);
        for (int n : WRONG) {
            due("link(" + n + ", 5, true)", x.link(n, 5, true), BAD);
            due("link(5, " + n + ", true)", x.link(5, n, true), BAD);
        }
        due("power(0, 0)", x.power(0, 0), 1);
        due("groups(0)", x.groups(0), 12);
        due("groups(12)", x.groups(12), 12);

        x = rung(3, 1);
        due("link(0, 0, true)", x.link(0, 0, true), BAD);
        due("link(0, 1, true)", x.link(0, 1, true), BAD);
        x = rung(1, 3);
        due("link(0, 1, true)", x.link(0, 1, true), BAD);
        due("link(-1, 1, true)", x.link(-1, 1, true), BAD);
    }

    private static void set() {
        part = "promise 5";
        LadderGrid x = new LadderGrid();
        for (int v = 0; v < 40; v++) {
            due("set(" + v + ", 1)", x.set(v, 1), 0);
            due("set(" + v + ", 1)", x.set(v, 1), 1);
            due("set(" + v + ", 0)", x.set(v, 0), 1);
            due("set(" + v + ", 0)", x.set(v, 0), 0);
            due("set(" + v + ", " + v % 2 + ")", x.set(v, v % 2), 0);
        }
        for (int n : WRONG) {
            due("set(" + n + ", 1)", x.set(n, 1), BAD);
            due("set(" + n + ", 0)", x.set(n, 0), BAD);
            due("set(3, " + n + ")", x.set(3, n), BAD);
            due("set(4, " + n + ")", x.set(4, n), BAD);
        }
        due("set(40, 1)", x.set(40, 1), BAD);
        due("set(3, 2)", x.set(3, 2), BAD);
        due("set(4, 2)", x.set(4, 2), BAD);
        for (int v = 0; v < 40; v++) {
            due("get(" + v + ")", x.get(v), v % 2);
        }
    }

    private static void get() {
        part = "promise 6";
        LadderGrid x = new LadderGrid();
        x.set(0, 1);
        x.set(39, 1);
        due("get(0)", x.get(0), 1);
        due("get(1)", x.get(1), 0);
        due("get(38)", x.get(38), 0);
        due("get(39)", x.get(39), 1);
        due("get(39)", x.get(39), 1);
        due("get(40)", x.get(40), BAD);
        for (int n : WRONG) {
            due("get(" + n + ")", x.get(n), BAD);
        }
    }

    private static void scanOfContacts() {
        part = "promise 7, contacts";
        int[] whenZero = {0, 1, 0, 1};
        int[] whenOne = {0, 1, 1, 0};
        for (int kind = 0; kind <= 3; kind++) {
            LadderGrid x = tested(kind, 8);
            for (int time = 0; time < 2; time++) {
                due("set(8, 0)", x.set(8, 0), time);
                due("scan() of kind " + kind, x.scan(), whenZero[kind]);
                due("get(39)", x.get(39), whenZero[kind]);
                due("set(8, 1)", x.set(8, 1), 0);
                due("scan() of kind " + kind, x.scan(), whenOne[kind]);
                due("get(39)", x.get(39), whenOne[kind]);
            }
        }
        LadderGrid x = rung(1, 12);
        for (int column = 0; column < 11; column++) {
            x.cell(0, column, 2, column);
            x.set(column, 1);
        }
        x.cell(0, 11, 6, 39);
        due("scan()", x.scan(), 1);
        x.set(10, 0);
        due("scan()", x.scan(), 0);
        due("power(0, 10)", x.power(0, 10), 1);
        due("power(0, 11)", x.power(0, 11), 0);
        x.set(0, 0);
        x.set(10, 1);
        due("scan()", x.scan(), 0);
        due("power(0, 1)", x.power(0, 1), 0);
    }

    private static void scanOfEdges() {
        part = "promise 7, edges";
        int[] values = {0, 1, 1, 0, 0, 1, 0, 1, 1};
        int[] rising = {0, 1, 0, 0, 0, 1, 0, 1, 0};
        int[] falling = {0, 0, 0, 1, 0, 0, 1, 0, 0};
        LadderGrid up = tested(4, 8);
        LadderGrid down = tested(5, 8);
        for (int i = 0; i < values.length; i++) {
            up.set(8, values[i]);
            down.set(8, values[i]);
            due("scan() of rising, " + i, up.scan(), rising[i]);
            due("scan() of falling, " + i, down.scan(), falling[i]);
        }
        LadderGrid first = tested(4, 8);
        first.set(8, 1);
        due("scan(), the first", first.scan(), 1);

        // What is set and set back between scans was not there when a cell was scanned.
        first.set(8, 0);
        first.set(8, 1);
        due("scan()", first.scan(), 0);

        // A cell without power to its left is scanned too.
        LadderGrid x = rung(1, 3);
        x.cell(0, 0, 2, 0);
        x.cell(0, 1, 4, 1);
        x.cell(0, 2, 6, 2);
        x.set(1, 1);
        due("scan()", x.scan(), 0);
        x.set(0, 1);
        due("scan()", x.scan(), 0);

        // Two cells of one variable remember by themselves.
        x = rung(2, 2);
        x.cell(0, 0, 4, 0);
        x.cell(0, 1, 6, 1);
        x.cell(1, 1, 6, 2);
        x.set(0, 1);
        due("scan()", x.scan(), 1);
        x.cell(1, 0, 4, 0);
        due("scan()", x.scan(), 1);
        due("get(1)", x.get(1), 0);
        due("get(2)", x.get(2), 1);

        // An edge of a variable that a coil of the same rung writes.
        x = rung(1, 2);
        x.cell(0, 0, 4, 0);
        x.cell(0, 1, 7, 0);
        due("scan()", x.scan(), 0);
        due("get(0)", x.get(0), 1);
        due("scan()", x.scan(), 1);
        due("get(0)", x.get(0), 0);
        due("scan()", x.scan(), 0);
        due("get(0)", x.get(0), 1);
    }

    private static void scanOfLinks() {
        part = "promise 7, links";
        // From each of 12 rows to all others, unless the chain of links is cut.
        for (int from = 0; from < 12; from++) {
            for (int cut = -1; cut < 11; cut++) {
                LadderGrid x = rung(12, 2);
                x.cell(from, 0, 1, 0);
                for (int row = 0; row < 11; row++) {
                    x.link(row, 1, row != cut);
                }
                for (int row = 0; row < 12; row++) {
                    x.cell(row, 1, 6, row);
                }
                x.scan();
                for (int row = 0; row < 12; row++) {
                    boolean near = cut < 0 || (row <= cut) == (from <= cut);
                    due("get(" + row + ") from " + from + ", cut " + cut, x.get(row), near ? 1 : 0);
                }
            }
        }
        // What comes over a link goes on through the next cell of that row.
        LadderGrid on = rung(2, 3);
        on.cell(0, 0, 1, 0);
        on.cell(1, 1, 2, 0);
        on.cell(1, 2, 6, 39);
        on.link(0, 1, true);
        on.set(0, 1);
        due("scan()", on.scan(), 1);
        due("power(1, 2)", on.power(1, 2), 1);
        due("power(0, 2)", on.power(0, 2), 0);
        // Power never goes back to the left: the dead row gets none at line 1 through its wire from line 2.
        LadderGrid x = rung(3, 3);
        x.cell(0, 0, 1, 0);
        x.cell(0, 1, 1, 0);
        x.cell(1, 1, 1, 0);
        x.link(0, 2, true);
        x.link(1, 1, true);
        x.cell(2, 1, 1, 0);
        x.cell(2, 2, 6, 0);
        due("scan()", x.scan(), 0);
        due("power(1, 2)", x.power(1, 2), 1);
        due("power(1, 1)", x.power(1, 1), 0);
        due("power(2, 1)", x.power(2, 1), 0);
        due("power(2, 2)", x.power(2, 2), 0);
    }

    private static void scanOfCoils() {
        part = "promise 7, coils";
        int[][] want = {{0, 1}, {1, 0}, {-1, 1}, {-1, 0}};
        for (int kind = 6; kind <= 9; kind++) {
            for (int p = 0; p <= 1; p++) {
                for (int before = 0; before <= 1; before++) {
                    LadderGrid x = rung(1, 2);
                    x.cell(0, 0, p, 0);
                    x.cell(0, 1, kind, 39);
                    x.set(39, before);
                    due("scan()", x.scan(), p);
                    int after = want[kind - 6][p];
                    due("get(39) of kind " + kind + ", p " + p, x.get(39), after < 0 ? before : after);
                }
            }
        }
        // In one column the rail itself is to the left of the coils; the last coil of a variable wins.
        LadderGrid x = rung(5, 1);
        for (int row = 0; row < 4; row++) {
            x.cell(row, 0, 6 + row, row);
        }
        x.set(1, 1);
        x.set(3, 1);
        due("scan()", x.scan(), 4);
        due("get(0)", x.get(0), 1);
        due("get(1)", x.get(1), 0);
        due("get(2)", x.get(2), 1);
        due("get(3)", x.get(3), 0);
        x = rung(2, 1);
        x.cell(0, 0, 9, 5);
        x.cell(1, 0, 8, 5);
        due("scan()", x.scan(), 2);
        due("get(5)", x.get(5), 1);
        x.cell(0, 0, 8, 5);
        x.cell(1, 0, 9, 5);
        due("scan()", x.scan(), 2);
        due("get(5)", x.get(5), 0);
        // A wire or a contact in the last column is no coil.
        x = rung(2, 1);
        x.cell(0, 0, 1, 5);
        x.cell(1, 0, 3, 5);
        due("scan()", x.scan(), 0);
        due("get(5)", x.get(5), 0);
    }

    private static void scanGoesByTheBeginning() {
        part = "promise 7, by the variables as they are when it begins";
        LadderGrid x = rung(2, 2);
        x.cell(0, 0, 1, 0);
        x.cell(0, 1, 6, 0);
        x.cell(1, 0, 2, 0);
        x.cell(1, 1, 6, 1);
        due("scan()", x.scan(), 1);
        due("get(0)", x.get(0), 1);
        due("get(1)", x.get(1), 0);
        due("scan()", x.scan(), 2);
        due("get(1)", x.get(1), 1);
        // The contact behind a coil's row stands in the last column itself.
        x = rung(2, 1);
        x.cell(0, 0, 6, 0);
        x.cell(1, 0, 2, 0);
        x.scan();
        due("power(1, 1)", x.power(1, 1), 0);
        x.scan();
        due("power(1, 1)", x.power(1, 1), 1);
    }

    private static void power() {
        part = "promise 8";
        LadderGrid x = rung(3, 4);
        x.cell(0, 0, 1, 0);
        x.cell(0, 1, 2, 0);
        x.cell(2, 1, 1, 0);
        x.link(1, 2, true);
        x.set(0, 1);
        due("power(0, 0), never scanned", x.power(0, 0), BAD);
        x.scan();
        int[][] want = {{1, 1, 1, 0, 0}, {1, 0, 0, 0, 0}, {1, 0, 0, 0, 0}};
        for (int row = 0; row < 3; row++) {
            for (int line = 0; line <= 4; line++) {
                due("power(" + row + ", " + line + ")", x.power(row, line), want[row][line]);
            }
        }
        for (int n : WRONG) {
            due("power(" + n + ", 0)", x.power(n, 0), BAD);
            due("power(0, " + n + ")", x.power(0, n), BAD);
        }
        due("power(3, 0)", x.power(3, 0), BAD);
        due("power(0, 5)", x.power(0, 5), BAD);
    }

    private static void powerOfLastLine() {
        part = "promise 8, line c";
        LadderGrid x = rung(10, 1);
        for (int row = 0; row < 10; row++) {
            x.cell(row, 0, row, 20 + row);
        }
        x.set(22, 1);
        x.set(24, 1);
        x.set(25, 1);
        x.scan();
        int[] want = {0, 1, 1, 1, 1, 0, BAD, BAD, BAD, BAD};
        for (int row = 0; row < 10; row++) {
            due("power(" + row + ", 1)", x.power(row, 1), want[row]);
            due("power(" + row + ", 0)", x.power(row, 0), 1);
        }
        x.set(25, 0);
        x.scan();
        due("power(4, 1)", x.power(4, 1), 0);
        due("power(5, 1)", x.power(5, 1), 1);
    }

    private static void powerAfterChanges() {
        part = "promise 8, after changes";
        LadderGrid x = rung(2, 2);
        x.cell(0, 0, 2, 0);
        x.set(0, 1);
        x.scan();
        due("power(0, 1)", x.power(0, 1), 1);
        // It is what was in the scan: variables are no part of the rung.
        x.set(0, 0);
        due("power(0, 1) after set", x.power(0, 1), 1);
        x.steps();
        x.groups(1);
        x.get(0);
        due("power(0, 1) after questions", x.power(0, 1), 1);
        x.scan();
        due("power(0, 1)", x.power(0, 1), 0);
        // A refused call changes nothing.
        x.cell(0, 0, 6, 0);
        x.cell(0, 2, 1, 0);
        x.cell(0, 0, 2, 40);
        x.link(1, 1, true);
        x.link(0, 2, true);
        x.begin(13, 1);
        due("power(0, 0) after refused calls", x.power(0, 0), 1);
        // A call that tells what stands there already counts as a change.
        x.cell(0, 0, 2, 0);
        due("power(0, 0) after the same cell", x.power(0, 0), BAD);
        x.scan();
        due("power(0, 0)", x.power(0, 0), 1);
        x.cell(1, 1, 0, 0);
        due("power(0, 0) after the same gap", x.power(0, 0), BAD);
        x.scan();
        x.link(0, 1, false);
        due("power(0, 0) after the same link", x.power(0, 0), BAD);
        x.scan();
        x.link(0, 1, true);
        due("power(0, 0) after a link", x.power(0, 0), BAD);
        x.scan();
        x.begin(2, 2);
        due("power(0, 0) after begin", x.power(0, 0), BAD);
    }

    private static void stepsOfTerms() {
        part = "promise 9, terms";
        // A gap costs 1 for no term; any other cell its term; each group 1 more.
        int[] want = {2, 2, 4, 5, 9, 9};
        for (int kind = 0; kind <= 5; kind++) {
            LadderGrid x = rung(1, 1);
            x.cell(0, 0, kind, 0);
            due("steps() of kind " + kind + " before line c", x.steps(), want[kind]);
            x = rung(1, 2);
            x.cell(0, 0, kind, 0);
            due("steps() of kind " + kind + " before line 1", x.steps(), want[kind] + 2);
            x.scan();
            x.set(0, 1);
            due("steps() of kind " + kind + " after a scan", x.steps(), want[kind] + 2);
        }
    }

    private static void stepsOfGroups() {
        part = "promise 9, groups";
        LadderGrid x = rung(3, 2);
        x.link(0, 1, true);
        x.link(1, 1, true);
        due("steps(), no term", x.steps(), 2 + 6);
        x.cell(1, 0, 2, 0);
        due("steps(), one term", x.steps(), 3 + 1 + 6);
        x.cell(2, 0, 3, 0);
        due("steps(), two terms", x.steps(), 3 + 4 + 1 + 1 + 6);
        x.cell(0, 0, 4, 0);
        due("steps(), three terms", x.steps(), 8 + 3 + 4 + 2 + 1 + 6);
        x.cell(1, 0, 0, 0);
        due("steps(), a gap between two terms", x.steps(), 8 + 4 + 1 + 1 + 6);
        x.link(1, 1, false);
        due("steps(), two groups", x.steps(), 8 + 1 + 4 + 1 + 6);
        x.link(0, 1, false);
        due("steps(), three groups", x.steps(), 8 + 1 + 2 + 4 + 1 + 6);

        x = rung(12, 12);
        for (int row = 0; row < 12; row++) {
            for (int column = 0; column < 12; column++) {
                x.cell(row, column, 5, 0);
            }
        }
        due("steps(), the most", x.steps(), 144 * 9);
    }

    private static void stepsOfCoils() {
        part = "promise 9, coils";
        int[] want = {2, 3, 4, 5};
        LadderGrid x = rung(5, 2);
        int sum = 20;
        due("steps()", x.steps(), sum);
        for (int row = 0; row < 4; row++) {
            x.cell(row, 1, 6 + row, 0);
            sum += want[row] - 2;
            due("steps() with a coil of kind " + (6 + row), x.steps(), sum);
        }
    }

    private static void groups() {
        part = "promise 10";
        LadderGrid x = rung(5, 4);
        for (int line = 0; line <= 4; line++) {
            due("groups(" + line + ")", x.groups(line), 5);
        }
        x.link(0, 1, true);
        due("groups(1)", x.groups(1), 4);
        x.link(3, 1, true);
        due("groups(1)", x.groups(1), 3);
        x.link(3, 1, true);
        due("groups(1)", x.groups(1), 3);
        x.link(1, 1, true);
        x.link(2, 1, true);
        due("groups(1)", x.groups(1), 1);
        x.link(1, 1, false);
        due("groups(1)", x.groups(1), 2);
        x.link(2, 3, true);
        due("groups(0)", x.groups(0), 5);
        due("groups(2)", x.groups(2), 5);
        due("groups(3)", x.groups(3), 4);
        due("groups(4)", x.groups(4), 5);
        due("groups(5)", x.groups(5), BAD);
        for (int n : WRONG) {
            due("groups(" + n + ")", x.groups(n), BAD);
        }
    }
}
