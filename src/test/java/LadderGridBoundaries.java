import java.lang.management.ManagementFactory;
import java.util.stream.IntStream;

// Each sentence of the document that names a boundary case (too small, too large, empty, full, a wrap-around, a
// refused call) has a test of its own here, which runs under the sentence's words.
public final class LadderGridBoundaries {
    private static final int BAD = -1;
    private static final int MOST_CALLS = 512;
    private static int wrong = 0;
    private static String sentence = "";

    public static void main(String[] args) {
        whatItIs();
        terms();
        termsOfAScan();
        termsOfThePlan();
        promise1();
        promise2();
        promise3();
        promise4();
        promise5And6();
        promise7();
        promise8();
        promise9();
        promise10();
        System.out.println(wrong == 0 ? "all answers are as due" : wrong + " answers are not as due");
        if (wrong != 0) {
            System.exit(1);
        }
    }

    private static void test(String words, Runnable body) {
        sentence = words;
        try {
            body.run();
        } catch (RuntimeException thrown) {
            fault("a call threw " + thrown);
        }
    }

    private static void fault(String text) {
        wrong++;
        System.out.println("'" + sentence + "': " + text);
    }

    private record Answer(String call, int got) {
        void due(int want) {
            if (got != want) {
                fault(call + " answered " + got + ", due is " + want);
            }
        }
    }

    /** Writes its calls down, and makes no more of them than the document answers for. */
    private static final class Told {
        private final LadderGrid grid = new LadderGrid();
        private int calls = 0;

        Answer begin(int r, int c) {
            return answer("begin(" + r + ", " + c + ")", grid.begin(r, c));
        }

        Answer cell(int row, int column, int kind, int variable) {
            String call = "cell(" + row + ", " + column + ", " + kind + ", " + variable + ")";
            return answer(call, grid.cell(row, column, kind, variable));
        }

        Answer link(int row, int line, boolean is) {
            return answer("link(" + row + ", " + line + ", " + is + ")", grid.link(row, line, is));
        }

        Answer set(int variable, int value) {
            return answer("set(" + variable + ", " + value + ")", grid.set(variable, value));
        }

        Answer get(int variable) {
            return answer("get(" + variable + ")", grid.get(variable));
        }

        Answer scan() {
            return answer("scan()", grid.scan());
        }

        Answer power(int row, int line) {
            return answer("power(" + row + ", " + line + ")", grid.power(row, line));
        }

        Answer steps() {
            return answer("steps()", grid.steps());
        }

        Answer groups(int line) {
            return answer("groups(" + line + ")", grid.groups(line));
        }

        private Answer answer(String call, int got) {
            calls++;
            if (calls > MOST_CALLS) {
                fault("the test itself makes more than " + MOST_CALLS + " calls: " + call);
            }
            return new Answer(call, got);
        }
    }

    private static Told rung(int r, int c) {
        Told x = new Told();
        x.begin(r, c).due(0);
        return x;
    }

    /** One row: the cell, and a coil of variable 39 behind it, so that scan() tells what the cell lets through. */
    private static Told tested(int kind, int variable) {
        Told x = rung(1, 2);
        x.cell(0, 0, kind, variable).due(0);
        x.cell(0, 1, 6, 39).due(0);
        return x;
    }

    private static Told full(int r, int c, int kind) {
        Told x = rung(r, c);
        for (int row = 0; row < r; row++) {
            for (int column = 0; column < c; column++) {
                x.cell(row, column, kind, 0).due(0);
            }
        }
        return x;
    }

    /**
     * Numbers outside of least .. most: just beside it, far off, those that a narrower type would cut to a right
     * one, and those whose product with 12 or 13 wraps round to a small one.
     */
    private static int[] outside(int least, int most) {
        int[] some = {
            least - 1, least - 2, most + 1, most + 2, -12, -13, -40, 26, 144, 156, 1000, -1000,
            least + 256, most - 256, least + 65536, most - 65536, least ^ Integer.MIN_VALUE, most ^ Integer.MIN_VALUE,
            1 << 30, (1 << 30) + 1, -(1 << 30), -991146299, 991146299, Integer.MIN_VALUE, Integer.MIN_VALUE + 1,
            Integer.MAX_VALUE, Integer.MAX_VALUE - 1,
        };
        return IntStream.of(some).filter(n -> n < least || n > most).distinct().toArray();
    }

    // ---- What it is

    private static void whatItIs() {
        test("An object is used for at most 512 calls after it has been made", () -> {
            Told x = tested(3, 39);
            for (int i = 0; x.calls < MOST_CALLS; i++) {
                x.scan().due(i % 2 == 0 ? 1 : 0);
            }
            x = new Told();
            while (x.calls < MOST_CALLS - 1) {
                x.begin(12, 12).due(0);
            }
            x.steps().due(288);
            x = full(12, 12, 1);
            while (x.calls < MOST_CALLS - 1) {
                x.scan().due(0);
            }
            x.power(11, 12).due(1);
        });
    }

    // ---- Terms: the rung

    private static void terms() {
        test("All memory is the class's own", () -> {
            Told one = rung(2, 2);
            Told other = rung(2, 2);
            one.cell(0, 0, 4, 0).due(0);
            one.cell(0, 1, 6, 1).due(0);
            one.link(0, 1, true).due(0);
            one.set(0, 1).due(0);
            one.scan().due(1);
            other.get(0).due(0);
            other.get(1).due(0);
            other.power(0, 0).due(BAD);
            other.groups(1).due(2);
            other.cell(0, 0, 4, 0).due(0);
            other.cell(0, 1, 6, 1).due(0);
            other.set(0, 1).due(0);
            other.scan().due(1);
            other.power(1, 1).due(0);
            one.power(1, 1).due(1);
            one.scan().due(0);
        });
        test("All memory is .. made once", LadderGridBoundaries::callsMakeNothing);
        test("ROWS 0 .. r - 1 (r of 1 .. 12)", () -> {
            for (int r = 1; r <= 12; r++) {
                Told x = rung(r, 2);
                for (int row = 0; row < r; row++) {
                    x.cell(row, 1, 1, 0).due(0);
                }
                x.cell(-1, 1, 1, 0).due(BAD);
                x.cell(r, 1, 1, 0).due(BAD);
                x.groups(0).due(r);
            }
        });
        test("COLUMNS 0 .. c - 1 (c of 1 .. 12)", () -> {
            for (int c = 1; c <= 12; c++) {
                Told x = rung(2, c);
                for (int column = 0; column < c; column++) {
                    x.cell(1, column, 1, 0).due(0);
                }
                x.cell(1, -1, 1, 0).due(BAD);
                x.cell(1, c, 1, 0).due(BAD);
            }
        });
        test("LINES 0 .. c: line k is between columns k - 1 and k", () -> {
            for (int c = 1; c <= 12; c++) {
                for (int gap = 0; gap < c; gap++) {
                    Told x = full(1, c, 1);
                    x.cell(0, gap, 0, 0).due(1);
                    x.scan().due(0);
                    x.power(0, -1).due(BAD);
                    for (int line = 0; line <= c; line++) {
                        x.power(0, line).due(line <= gap ? 1 : 0);
                    }
                    x.power(0, c + 1).due(BAD);
                }
            }
        });
        test("At a line of 1 .. c - 1 a row and the next one may be LINKED", () -> {
            for (int c = 1; c <= 12; c++) {
                Told x = rung(2, c);
                x.link(0, 0, true).due(BAD);
                for (int line = 1; line < c; line++) {
                    x.link(0, line, true).due(0);
                    x.groups(line).due(1);
                }
                x.link(0, c, true).due(BAD);
                x.groups(0).due(2);
                x.groups(c).due(2);
            }
        });
        test("VARIABLES 0 .. 39", () -> {
            Told x = new Told();
            x.set(0, 1).due(0);
            x.set(39, 1).due(0);
            x.set(-1, 1).due(BAD);
            x.set(40, 1).due(BAD);
            x.get(-1).due(BAD);
            x.get(40).due(BAD);
            for (int v = 0; v < 40; v++) {
                x.get(v).due(v == 0 || v == 39 ? 1 : 0);
            }
        });
        test("VARIABLES .. each 0 or 1", () -> {
            Told x = new Told();
            x.set(9, -1).due(BAD);
            x.set(9, 2).due(BAD);
            x.get(9).due(0);
            x.set(9, 1).due(0);
            x.set(9, -1).due(BAD);
            x.set(9, 2).due(BAD);
            x.get(9).due(1);
            x.set(9, 0).due(1);
            x.get(9).due(0);
        });
        test("A cell is one of: 0 GAP .. 9 RESET", () -> {
            Told x = rung(1, 1);
            x.cell(0, 0, -1, 0).due(BAD);
            x.cell(0, 0, 10, 0).due(BAD);
            for (int kind = 0; kind <= 9; kind++) {
                x.cell(0, 0, kind, 0).due(kind == 0 ? 0 : kind - 1);
            }
            x.cell(0, 0, -1, 0).due(BAD);
            x.cell(0, 0, 10, 0).due(BAD);
            x.cell(0, 0, 0, 0).due(9);
        });
        test("In the last column alone: 6 COIL, 7 NEGATED, 8 SET, 9 RESET", () -> {
            for (int c = 1; c <= 12; c++) {
                Told x = rung(1, c);
                for (int column = 0; column < c; column++) {
                    boolean last = column == c - 1;
                    for (int kind = 6; kind <= 9; kind++) {
                        x.cell(0, column, kind, 0).due(!last ? BAD : kind == 6 ? 0 : kind - 1);
                    }
                    x.cell(0, column, 5, 0).due(last ? 9 : 0);
                }
            }
        });
    }

    /** By the machine's own count of what this thread made; the bound is far below one object a call of any method. */
    private static void callsMakeNothing() {
        if (!(ManagementFactory.getThreadMXBean() instanceof com.sun.management.ThreadMXBean bean)
                || !bean.isThreadAllocatedMemorySupported()) {
            return;
        }
        LadderGrid[] grids = new LadderGrid[1000];
        for (int i = 0; i < grids.length; i++) {
            grids[i] = new LadderGrid();
        }
        callEachMethod(new LadderGrid());
        long thread = Thread.currentThread().getId();
        bean.getThreadAllocatedBytes(thread);
        long before = bean.getThreadAllocatedBytes(thread);
        for (LadderGrid grid : grids) {
            callEachMethod(grid);
        }
        long made = bean.getThreadAllocatedBytes(thread) - before;
        if (made > 100L * grids.length) {
            fault("calls made " + made + " bytes of new memory");
        }
    }

    private static void callEachMethod(LadderGrid grid) {
        for (int i = 0; i < 50; i++) {
            grid.begin(12, 12);
            grid.cell(0, 0, 4, i % 40);
            grid.link(0, 1, true);
            grid.set(i % 40, 1);
            grid.get(i % 40);
            grid.scan();
            grid.power(1, 1);
            grid.steps();
            grid.groups(1);
        }
    }

    // ---- Terms: a scan

    private static void termsOfAScan() {
        test("POWER is at line 0 in all rows", () -> {
            for (int r = 1; r <= 12; r++) {
                Told x = rung(r, 1);
                for (int row = 0; row < r; row++) {
                    x.cell(row, 0, row % 2 == 0 ? 6 : 0, row).due(0);
                }
                x.scan().due((r + 1) / 2);
                for (int row = 0; row < r; row++) {
                    x.power(row, 0).due(1);
                    x.get(row).due(row % 2 == 0 ? 1 : 0);
                }
            }
        });
        test("A cell lets it through .. in its row", () -> {
            for (int row = 0; row < 12; row++) {
                Told x = rung(12, 2);
                x.cell(row, 0, 1, 0).due(0);
                x.cell(row, 1, 1, 0).due(0);
                x.scan().due(0);
                for (int other = 0; other < 12; other++) {
                    x.power(other, 1).due(other == row ? 1 : 0);
                    x.power(other, 2).due(other == row ? 1 : 0);
                }
            }
        });
        test("a wire always", () -> {
            Told x = tested(1, 0);
            x.scan().due(1);
            x.scan().due(1);
            x.set(0, 1).due(0);
            x.scan().due(1);
            x.scan().due(1);
            x = full(12, 12, 1);
            x.scan().due(0);
            for (int row = 0; row < 12; row++) {
                x.power(row, 12).due(1);
            }
        });
        test("2 if its variable is 1; 3 if it is 0", () -> {
            for (int variable : new int[] {0, 38}) {
                Told open = tested(2, variable);
                Told shut = tested(3, variable);
                for (int i = 0; i < 6; i++) {
                    open.set(variable, i % 2);
                    shut.set(variable, i % 2);
                    for (int time = 0; time < 3; time++) {
                        open.scan().due(i % 2);
                        shut.scan().due(1 - i % 2);
                    }
                }
            }
        });
        test("4 if it is 1, and was 0 when this cell was scanned last", () ->
            edges(4, new int[] {0, 1, 1, 0, 0, 1, 0, 1}, new int[] {0, 1, 0, 0, 0, 1, 0, 1}));
        test("5 if it is 0, and was 1", () ->
            edges(5, new int[] {0, 1, 1, 0, 0, 1, 0, 1, 0}, new int[] {0, 0, 0, 1, 0, 0, 1, 0, 1}));
        test("(0 before that)", () -> {
            edges(4, new int[] {1, 1}, new int[] {1, 0});
            edges(4, new int[] {0, 0}, new int[] {0, 0});
            edges(5, new int[] {0, 0}, new int[] {0, 0});
            edges(5, new int[] {1, 0}, new int[] {0, 1});
            // Also if its variable is 1 already when the cell is told.
            Told x = new Told();
            x.set(0, 1).due(0);
            x.begin(2, 1).due(0);
            x.cell(0, 0, 4, 0).due(0);
            x.cell(1, 0, 5, 0).due(0);
            x.scan().due(0);
            x.power(0, 1).due(1);
            x.cell(1, 0, 5, 0).due(5);
            x.set(0, 0).due(1);
            x.scan().due(0);
            x.power(1, 1).due(0);
        });
        test("when this cell was scanned last: each cell by itself", () -> {
            Told x = rung(2, 3);
            x.cell(0, 0, 4, 0).due(0);
            x.cell(0, 1, 1, 0).due(0);
            x.cell(0, 2, 6, 1).due(0);
            x.cell(1, 1, 1, 0).due(0);
            x.cell(1, 2, 6, 2).due(0);
            x.set(0, 1).due(0);
            x.scan().due(1);
            x.cell(1, 0, 4, 0).due(0);
            x.scan().due(1);
            x.get(1).due(0);
            x.get(2).due(1);
            x.scan().due(0);
        });
        test("when this cell was scanned last: without power to its left too", () -> {
            Told x = rung(1, 3);
            x.cell(0, 0, 2, 0).due(0);
            x.cell(0, 1, 4, 1).due(0);
            x.cell(0, 2, 6, 2).due(0);
            x.set(1, 1).due(0);
            x.scan().due(0);
            x.set(0, 1).due(0);
            x.scan().due(0);
            x.cell(0, 1, 5, 1).due(4);
            x.set(0, 0).due(1);
            x.scan().due(0);
            x.set(0, 1).due(0);
            x.set(1, 0).due(1);
            x.scan().due(1);
        });
        test("when this cell was scanned last: not when a variable was set", () -> {
            Told x = tested(4, 0);
            x.set(0, 1).due(0);
            x.set(0, 0).due(1);
            x.scan().due(0);
            x.set(0, 1).due(0);
            x.scan().due(1);
            x.set(0, 0).due(1);
            x.set(0, 1).due(0);
            x.scan().due(0);
        });
        test("others never", () -> {
            Told x = tested(0, 0);
            x.scan().due(0);
            x.set(0, 1).due(0);
            x.scan().due(0);
            // What a coil would let through never shows, not even when its cell becomes a gap.
            x = rung(1, 1);
            for (int kind = 6; kind <= 9; kind++) {
                x.cell(0, 0, kind, 0).due(0);
                x.scan().due(1);
                x.power(0, 1).due(BAD);
                x.cell(0, 0, 0, 0).due(kind);
                x.scan().due(0);
                x.power(0, 1).due(0);
            }
        });
        test("gives it to all rows that are linked with it, one by one", () -> {
            for (int from = 0; from < 12; from++) {
                for (int cut = -1; cut < 11; cut++) {
                    linkedFrom(from, cut);
                }
            }
        });
        test("linked .. at that line", () -> {
            Told x = rung(2, 4);
            for (int column = 0; column < 4; column++) {
                x.cell(0, column, 1, 0).due(0);
            }
            x.link(0, 2, true).due(0);
            x.scan().due(0);
            int[] want = {1, 0, 1, 0, 0};
            for (int line = 0; line <= 4; line++) {
                x.power(1, line).due(want[line]);
            }
        });
        test("(Power never goes back to the left.)", () -> {
            Told x = rung(3, 3);
            x.cell(0, 0, 1, 0).due(0);
            x.cell(0, 1, 1, 0).due(0);
            x.cell(1, 1, 1, 0).due(0);
            x.cell(2, 1, 1, 0).due(0);
            x.cell(2, 2, 6, 0).due(0);
            x.link(0, 2, true).due(0);
            x.link(1, 1, true).due(0);
            x.scan().due(0);
            x.power(1, 2).due(1);
            x.power(1, 1).due(0);
            x.power(2, 1).due(0);
            x.power(2, 2).due(0);
        });
        test("All is by the variables as they are when the scan begins", () -> {
            Told x = rung(4, 1);
            x.cell(0, 0, 6, 0).due(0);
            x.cell(1, 0, 2, 0).due(0);
            x.cell(2, 0, 4, 0).due(0);
            x.cell(3, 0, 3, 0).due(0);
            x.scan().due(1);
            x.get(0).due(1);
            x.power(1, 1).due(0);
            x.power(2, 1).due(0);
            x.power(3, 1).due(1);
            x.scan().due(1);
            x.power(1, 1).due(1);
            x.power(2, 1).due(1);
            x.power(3, 1).due(0);
            x.scan().due(1);
            x.power(2, 1).due(0);
        });
        test("Then the coils, from row 0 on", () -> {
            Told x = rung(12, 1);
            for (int row = 0; row < 12; row++) {
                x.cell(row, 0, row % 2 == 0 ? 8 : 9, 5).due(0);
            }
            x.scan().due(12);
            x.get(5).due(0);
            x.cell(11, 0, 0, 0).due(9);
            x.scan().due(11);
            x.get(5).due(1);
            x.cell(10, 0, 7, 5).due(8);
            x.scan().due(11);
            x.get(5).due(0);
            x.cell(11, 0, 6, 5).due(0);
            x.scan().due(12);
            x.get(5).due(1);
        });
        test("the variable of 6 becomes p, of 7 what p is not; of 8 1, of 9 0, if p is", () -> {
            int[][][] want = {{{0, 0}, {1, 1}}, {{1, 1}, {0, 0}}, {{0, 1}, {1, 1}}, {{0, 1}, {0, 0}}};
            for (int kind = 6; kind <= 9; kind++) {
                for (int p = 0; p <= 1; p++) {
                    for (int was = 0; was <= 1; was++) {
                        coil(kind, p, was, want[kind - 6][p][was]);
                    }
                }
            }
        });
    }

    private static void edges(int kind, int[] values, int[] want) {
        Told x = tested(kind, 0);
        for (int i = 0; i < values.length; i++) {
            x.set(0, values[i]);
            x.scan().due(want[i]);
        }
    }

    /** Power in one row of 12, all of them linked but for one place. */
    private static void linkedFrom(int from, int cut) {
        Told x = rung(12, 2);
        x.cell(from, 0, 1, 0).due(0);
        for (int row = 0; row < 11; row++) {
            x.link(row, 1, row != cut).due(0);
        }
        x.scan().due(0);
        for (int row = 0; row < 12; row++) {
            boolean near = cut < 0 || (row <= cut) == (from <= cut);
            x.power(row, 1).due(near ? 1 : 0);
        }
    }

    private static void coil(int kind, int p, int was, int want) {
        for (int variable : new int[] {0, 39}) {
            Told x = rung(1, 2);
            x.cell(0, 0, p == 1 ? 1 : 0, 0).due(0);
            x.cell(0, 1, kind, variable).due(0);
            x.set(variable, was).due(0);
            x.scan().due(p);
            x.get(variable).due(want);
            x.get(20).due(0);
        }
    }

    // ---- Terms: the plan

    private static void termsOfThePlan() {
        test("for each line 1 .. c - 1", () -> {
            for (int c = 1; c <= 12; c++) {
                Told x = rung(1, c);
                x.cell(0, c - 1, 6, 0).due(0);
                x.steps().due(2 * (c - 1) + 2);
                for (int column = 0; column < c - 1; column++) {
                    x.cell(0, column, 2, 0).due(0);
                    x.steps().due(2 * (c - 1) + 2 + 2 * (column + 1));
                }
            }
        });
        test("(and line c ..)", () -> {
            int[] want = {2, 2, 4, 5, 9, 9};
            for (int kind = 0; kind <= 5; kind++) {
                for (int c : new int[] {1, 2, 12}) {
                    Told x = rung(1, c);
                    x.cell(0, c - 1, kind, 0).due(0);
                    x.steps().due(2 * (c - 1) + want[kind]);
                }
            }
        });
        test("(.. but for rows whose last cell is of 6 to 9 ..)", () -> {
            int[] coilSteps = {2, 3, 4, 5};
            for (int kind = 6; kind <= 9; kind++) {
                // Every row alone, then all rows: line c has no group left.
                Told x = rung(12, 1);
                for (int row = 0; row < 12; row++) {
                    x.cell(row, 0, kind, 0).due(0);
                    x.steps().due((row + 1) * coilSteps[kind - 6] + (11 - row) * 2);
                }
                for (int row = 0; row < 12; row++) {
                    x.cell(row, 0, 4, 0).due(kind);
                    x.steps().due((11 - row) * coilSteps[kind - 6] + (row + 1) * 9);
                }
            }
        });
        test("(.. nothing is linked there)", () -> {
            Told x = rung(3, 2);
            x.link(0, 1, true).due(0);
            x.link(1, 1, true).due(0);
            x.link(0, 2, true).due(BAD);
            x.link(1, 2, true).due(BAD);
            x.steps().due(2 + 3 * 2);
            // Rows that stay linked at line c of a shorter rung would be one group there.
            x.begin(3, 1).due(0);
            x.steps().due(3 * 2);
            x.groups(1).due(3);
        });
        test("for each group of rows that are linked there", () -> {
            // One 1 for no term and one 1 more in each group: groups alone make the number.
            Told x = rung(12, 2);
            for (int row = 0; row < 11; row++) {
                x.steps().due(2 * (12 - row) + 24);
                x.link(row, 1, true).due(0);
            }
            x.steps().due(2 + 24);
            x.link(0, 1, false).due(1);
            x.steps().due(4 + 24);
            x.link(10, 1, false).due(1);
            x.steps().due(6 + 24);
        });
        test("whose cell to the left of the line is no gap, a TERM", () -> {
            Told x = rung(3, 2);
            x.link(0, 1, true).due(0);
            x.link(1, 1, true).due(0);
            x.steps().due(2 + 6);
            x.cell(1, 0, 1, 0).due(0);
            x.steps().due(2 + 6);
            x.cell(0, 0, 1, 0).due(0);
            x.steps().due(4 + 6);
            x.cell(2, 0, 1, 0).due(0);
            x.steps().due(6 + 6);
            x.cell(1, 0, 0, 0).due(1);
            x.steps().due(4 + 6);
        });
        test("between two terms, behind the second one, 1 step more", () -> {
            Told x = rung(12, 2);
            for (int row = 0; row < 11; row++) {
                x.link(row, 1, true).due(0);
            }
            for (int row = 0; row < 12; row++) {
                x.cell(row, 0, 1, 0).due(0);
                x.steps().due(row + 1 + row + 1 + 24);
            }
            // Terms of two groups have nothing between them.
            for (int row = 0; row < 11; row++) {
                x.link(row, 1, false).due(1);
                x.steps().due(24 + 24);
            }
        });
        test("1 if there is no term; and 1", () -> {
            Told x = rung(12, 12);
            x.steps().due(288);
            for (int line = 1; line <= 11; line++) {
                for (int row = 0; row < 11; row++) {
                    x.link(row, line, true).due(0);
                }
                x.steps().due(288 - line * 22);
            }
            x = full(1, 12, 1);
            x.steps().due(24);
        });
        test("A term is 1 step .. and for 1 nothing, 2 2, 3 3, 4 and 5 7", () -> {
            int[] want = {1, 3, 4, 8, 8};
            for (int kind = 1; kind <= 5; kind++) {
                // At line 1, where the term begins with line 0, and at line 2, where it begins with a group's power.
                for (int column = 0; column <= 1; column++) {
                    Told x = rung(1, 3);
                    x.cell(0, column, kind, 39).due(0);
                    x.steps().due(want[kind - 1] + 1 + 4);
                }
            }
        });
        test("Then for each coil 2 steps (6), 3 (7), 4 (8), 5 (9)", () -> {
            Told x = rung(4, 1);
            int[] want = {2, 3, 4, 5};
            for (int kind = 6; kind <= 9; kind++) {
                x.begin(1, 1).due(0);
                x.cell(0, 0, kind, 39).due(0);
                x.steps().due(want[kind - 6]);
            }
            x.begin(4, 1).due(0);
            for (int kind = 6; kind <= 9; kind++) {
                x.cell(kind - 6, 0, kind, 0).due(0);
            }
            x.steps().due(14);
        });
    }

    // ---- Promise 1: A new object

    private static void promise1() {
        test("LadderGrid(): As behind begin(1, 1)", () -> {
            Told made = new Told();
            Told begun = rung(1, 1);
            for (Told x : new Told[] {made, begun}) {
                x.power(0, 0).due(BAD);
                x.steps().due(2);
                x.groups(0).due(1);
                x.groups(1).due(1);
                x.groups(2).due(BAD);
                x.link(0, 0, true).due(BAD);
                x.link(0, 1, true).due(BAD);
                x.cell(1, 0, 1, 0).due(BAD);
                x.cell(0, 1, 1, 0).due(BAD);
                x.scan().due(0);
                x.power(0, 0).due(1);
                x.power(0, 1).due(0);
                x.power(0, 2).due(BAD);
                x.power(1, 0).due(BAD);
                x.cell(0, 0, 6, 0).due(0);
                x.scan().due(1);
            }
        });
        test("LadderGrid(): .. all variables 0", () -> {
            Told x = new Told();
            for (int v = 0; v < 40; v++) {
                x.get(v).due(0);
            }
        });
    }

    // ---- Promise 2: begin

    private static void promise2() {
        test("begin: A rung of so many rows and columns", () -> {
            for (int r = 1; r <= 12; r++) {
                Told x = new Told();
                for (int c = 1; c <= 12; c++) {
                    begun(x, r, c);
                }
                for (int c = 12; c >= 1; c--) {
                    begun(x, r, c);
                    begun(x, 13 - r, c);
                }
            }
        });
        test("begin: .. all gaps", () -> {
            Told x = full(12, 12, 5);
            x.begin(12, 12).due(0);
            x.steps().due(288);
            for (int row = 0; row < 12; row++) {
                for (int column = 0; column < 12; column++) {
                    x.cell(row, column, 0, 0).due(0);
                }
            }
            // Not even those of a rung that was greater than the one before this.
            x = full(12, 12, 5);
            x.begin(1, 1).due(0);
            x.begin(12, 12).due(0);
            x.steps().due(288);
        });
        test("begin: .. nothing linked", () -> {
            Told x = rung(12, 12);
            for (int row = 0; row < 11; row++) {
                for (int line = 1; line <= 11; line++) {
                    x.link(row, line, true).due(0);
                }
            }
            x.begin(12, 12).due(0);
            for (int line = 0; line <= 12; line++) {
                x.groups(line).due(12);
            }
            for (int row = 0; row < 11; row++) {
                for (int line = 1; line <= 11; line++) {
                    x.link(row, line, true).due(0);
                }
            }
            // What was a line within the rung is its last one now, and what had a next row has none.
            for (int n = 11; n >= 1; n--) {
                x.begin(n, n).due(0);
                x.groups(n).due(n);
                x.groups(0).due(n);
                x.steps().due(2 * n * n);
            }
        });
        test("begin: .. variables stay", () -> {
            Told x = new Told();
            for (int v = 0; v < 40; v++) {
                x.set(v, (v + 1) % 2).due(0);
            }
            x.begin(12, 12).due(0);
            x.begin(1, 1).due(0);
            for (int v = 0; v < 40; v++) {
                x.get(v).due((v + 1) % 2);
            }
        });
        test("begin: .. 0", () -> {
            Told x = new Told();
            x.begin(1, 1).due(0);
            x.begin(1, 12).due(0);
            x.begin(12, 1).due(0);
            x.begin(12, 12).due(0);
        });
        test("begin: .. BAD, of rows", () -> {
            Told x = new Told();
            for (int n : outside(1, 12)) {
                x.begin(n, 1).due(BAD);
                x.begin(n, 12).due(BAD);
            }
            x.groups(0).due(1);
        });
        test("begin: .. BAD, of columns", () -> {
            Told x = new Told();
            for (int n : outside(1, 12)) {
                x.begin(1, n).due(BAD);
                x.begin(12, n).due(BAD);
            }
            x.groups(1).due(1);
            x.groups(2).due(BAD);
        });
        test("begin: .. BAD, and all stays", () -> {
            for (int[] size : new int[][] {{0, 5}, {13, 5}, {5, 0}, {5, 13}, {0, 0}, {13, 13}, {-1, -1}}) {
                Told x = lively();
                x.begin(size[0], size[1]).due(BAD);
                lives(x);
            }
        });
    }

    private static void begun(Told x, int r, int c) {
        x.begin(r, c).due(0);
        x.groups(0).due(r);
        x.groups(c).due(r);
        x.groups(c + 1).due(BAD);
        x.cell(r - 1, c - 1, 9, 0).due(0);
        x.cell(r, c - 1, 1, 0).due(BAD);
        x.cell(r - 1, c, 1, 0).due(BAD);
    }

    /** Two rows and three columns, of all that a refused call could spoil. */
    private static Told lively() {
        Told x = rung(2, 3);
        x.cell(0, 0, 4, 1).due(0);
        x.cell(0, 1, 1, 0).due(0);
        x.cell(0, 2, 6, 2).due(0);
        x.cell(1, 1, 2, 3).due(0);
        x.cell(1, 2, 8, 39).due(0);
        x.link(0, 1, true).due(0);
        x.set(1, 1).due(0);
        x.set(3, 1).due(0);
        x.scan().due(2);
        return x;
    }

    /** All that lively() made is still there: its power, variables, plan and links, what its cells saw, its cells. */
    private static void lives(Told x) {
        int[][] power = {{1, 1, 1, BAD}, {1, 1, 1, BAD}};
        for (int row = 0; row < 2; row++) {
            for (int line = 0; line <= 3; line++) {
                x.power(row, line).due(power[row][line]);
            }
        }
        for (int v = 0; v < 40; v++) {
            x.get(v).due(v == 1 || v == 2 || v == 3 || v == 39 ? 1 : 0);
        }
        x.steps().due(9 + 2 + 4 + 2 + 4);
        x.groups(0).due(2);
        x.groups(1).due(1);
        x.groups(2).due(2);
        x.groups(3).due(2);
        x.groups(4).due(BAD);
        x.scan().due(0);
        x.get(2).due(0);
        x.get(39).due(1);
        x.link(0, 1, true).due(1);
        x.link(0, 2, false).due(0);
        int[][] kinds = {{4, 1, 6}, {0, 2, 8}};
        for (int row = 0; row < 2; row++) {
            for (int column = 0; column < 3; column++) {
                x.cell(row, column, 0, 0).due(kinds[row][column]);
            }
        }
    }

    // ---- Promise 3: cell

    private static void promise3() {
        test("cell: A cell becomes a kind", () -> {
            Told x = rung(12, 12);
            // Each cell another kind than those around it; at the end each one has its own.
            for (int i = 0; i < 144; i++) {
                x.cell(i / 12, i % 12, i * 7 % 6, 0).due(0);
            }
            for (int i = 0; i < 144; i++) {
                x.cell(i / 12, i % 12, 0, 0).due(i * 7 % 6);
            }
            x.steps().due(288);
        });
        test("cell: .. of a variable", () -> {
            for (int v = 0; v < 40; v++) {
                Told x = rung(1, 2);
                x.cell(0, 0, 2, v).due(0);
                x.cell(0, 1, 9, v).due(0);
                for (int w = 0; w < 40; w++) {
                    x.set(w, 1).due(0);
                }
                x.scan().due(1);
                x.scan().due(0);
                for (int w = 0; w < 40; w++) {
                    x.get(w).due(w == v ? 0 : 1);
                }
                // The same kind of another variable.
                x.cell(0, 0, 2, (v + 1) % 40).due(2);
                x.scan().due(1);
            }
        });
        test("cell: .. (of 0 and 1 any number is right)", () -> {
            Told x = rung(2, 2);
            for (int n : outside(0, 39)) {
                x.cell(0, 0, 1, n).due(0);
                x.cell(1, 0, 0, n).due(0);
                x.cell(0, 1, 1, n);
                x.cell(1, 1, 0, n).due(0);
                x.steps().due(8);
                x.scan().due(0);
                x.power(0, 2).due(1);
                x.power(1, 1).due(0);
                x.cell(0, 0, 0, n).due(1);
            }
        });
        test("cell: .. it was not scanned yet", () -> {
            Told x = tested(4, 0);
            x.set(0, 1).due(0);
            x.scan().due(1);
            x.cell(0, 0, 4, 0).due(4);
            x.scan().due(1);
            x.scan().due(0);
            x.cell(0, 0, 5, 0).due(4);
            x.set(0, 0).due(1);
            x.scan().due(0);
            // Another kind, and the first one again: a cell is not found again as it was.
            x.set(0, 1).due(0);
            x.scan().due(0);
            x.cell(0, 0, 0, 0).due(5);
            x.cell(0, 0, 5, 0).due(0);
            x.set(0, 0).due(1);
            x.scan().due(0);
            // What a contact or a wire was scanned with is not what the new cell was.
            for (int kind = 1; kind <= 3; kind++) {
                x.cell(0, 0, kind, 0);
                x.set(0, 1).due(0);
                x.scan();
                x.cell(0, 0, 4, 0).due(kind);
                x.scan().due(1);
                x.set(0, 0).due(1);
            }
        });
        test("cell: .. it, and no other, was not scanned yet", () -> {
            Told x = rung(3, 2);
            for (int row = 0; row < 3; row++) {
                x.cell(row, 0, 4, 0).due(0);
                x.cell(row, 1, 6, row + 1).due(0);
            }
            x.set(0, 1).due(0);
            x.scan().due(3);
            x.cell(1, 0, 4, 0).due(4);
            x.scan().due(1);
            x.get(1).due(0);
            x.get(2).due(1);
            x.get(3).due(0);
        });
        test("cell: .. what kind it was", () -> {
            Told x = new Told();
            for (int was = 0; was <= 9; was++) {
                for (int kind = 0; kind <= 9; kind++) {
                    x.begin(1, 1).due(0);
                    x.cell(0, 0, was, 3).due(0);
                    x.cell(0, 0, kind, 4).due(was);
                    x.cell(0, 0, kind, 4).due(kind);
                }
            }
        });
        test("cell: BAD: no such cell, its row", () -> {
            Told x = lively();
            for (int n : outside(0, 1)) {
                x.cell(n, 0, 1, 0).due(BAD);
                x.cell(n, 2, 9, 0).due(BAD);
            }
            lives(x);
        });
        test("cell: BAD: no such cell, its column", () -> {
            Told x = lively();
            for (int n : outside(0, 2)) {
                x.cell(0, n, 1, 0).due(BAD);
                x.cell(1, n, 0, 0).due(BAD);
                x.cell(1, n, 6, 0).due(BAD);
            }
            lives(x);
        });
        test("cell: BAD: no such .. kind", () -> {
            Told x = lively();
            for (int n : outside(0, 9)) {
                x.cell(0, 0, n, 0).due(BAD);
                x.cell(1, 2, n, 0).due(BAD);
            }
            lives(x);
        });
        test("cell: BAD: no such .. variable", () -> {
            for (int kind = 2; kind <= 9; kind++) {
                Told x = lively();
                for (int n : outside(0, 39)) {
                    x.cell(0, 2, kind, n).due(BAD);
                    x.cell(0, 0, kind, n).due(BAD);
                }
                lives(x);
                x.cell(0, 2, kind, 0).due(0);
                x.cell(0, 2, kind, 39).due(kind);
            }
        });
        test("cell: BAD: .. a kind of 6 to 9 not in the last column", () -> {
            for (int kind = 6; kind <= 9; kind++) {
                Told x = lively();
                for (int row = 0; row < 2; row++) {
                    x.cell(row, 0, kind, 0).due(BAD);
                    x.cell(row, 1, kind, 39).due(BAD);
                }
                lives(x);
                x.cell(0, 2, kind, 0).due(0);
                // The only column is the last one.
                x.begin(1, 1).due(0);
                x.cell(0, 0, kind, 0).due(0);
                // The last column is not that of the greatest rung, nor that of the rung before.
                x.begin(1, 12).due(0);
                x.cell(0, 0, kind, 0).due(BAD);
                x.cell(0, 10, kind, 0).due(BAD);
                x.cell(0, 11, kind, 0).due(0);
            }
        });
    }

    // ---- Promise 4: link

    private static void promise4() {
        test("link: A row and the next one are linked at a line", () -> {
            for (int row = 0; row < 11; row++) {
                for (int line = 1; line <= 11; line++) {
                    linkedAt(row, line);
                }
            }
        });
        test("link: .. or not", () -> {
            Told x = rung(2, 2);
            x.cell(0, 0, 1, 0).due(0);
            x.link(0, 1, true).due(0);
            x.scan().due(0);
            x.power(1, 1).due(1);
            x.link(0, 1, false).due(1);
            x.scan().due(0);
            x.power(1, 1).due(0);
            x.groups(1).due(2);
        });
        test("link: .. whether they were (1 or 0)", () -> {
            Told x = rung(12, 12);
            for (int[] at : new int[][] {{0, 1}, {0, 11}, {10, 1}, {10, 11}, {5, 6}}) {
                x.link(at[0], at[1], false).due(0);
                x.link(at[0], at[1], true).due(0);
                x.link(at[0], at[1], true).due(1);
                x.link(at[0], at[1], false).due(1);
                x.link(at[0], at[1], false).due(0);
                x.link(at[0], at[1], true).due(0);
            }
            for (int row = 0; row < 11; row++) {
                for (int line = 1; line <= 11; line++) {
                    boolean corner = (row == 0 || row == 10) && (line == 1 || line == 11);
                    x.link(row, line, true).due(corner || row == 5 && line == 6 ? 1 : 0);
                }
            }
        });
        test("link: BAD: there are no such two rows", () -> {
            Told x = lively();
            for (int n : outside(0, 0)) {
                x.link(n, 1, true).due(BAD);
                x.link(n, 2, true).due(BAD);
                x.link(n, 1, false).due(BAD);
            }
            lives(x);
            x = rung(12, 12);
            x.link(10, 1, true).due(0);
            x.link(11, 1, true).due(BAD);
            x.link(12, 1, true).due(BAD);
            x = rung(1, 12);
            for (int n = -2; n <= 2; n++) {
                x.link(n, 1, true).due(BAD);
            }
        });
        test("link: BAD: .. the line is not 1 .. c - 1", () -> {
            Told x = lively();
            for (int n : outside(1, 2)) {
                x.link(0, n, true).due(BAD);
                x.link(0, n, false).due(BAD);
            }
            lives(x);
            x = rung(12, 12);
            x.link(0, 0, true).due(BAD);
            x.link(0, 1, true).due(0);
            x.link(0, 11, true).due(0);
            x.link(0, 12, true).due(BAD);
            x = rung(12, 1);
            for (int n = -2; n <= 2; n++) {
                x.link(0, n, true).due(BAD);
            }
        });
    }

    private static void linkedAt(int row, int line) {
        Told x = rung(12, 12);
        for (int column = 0; column < line; column++) {
            x.cell(row, column, 1, 0).due(0);
        }
        x.link(row, line, true).due(0);
        x.scan().due(0);
        for (int other = 0; other < 12; other++) {
            x.power(other, line).due(other == row || other == row + 1 ? 1 : 0);
        }
        for (int other = 0; other <= 12; other++) {
            x.groups(other).due(other == line ? 11 : 12);
        }
    }

    // ---- Promise 5: set, promise 6: get

    private static void promise5And6() {
        test("set: A variable becomes 0 or 1", () -> {
            for (int v = 0; v < 40; v++) {
                Told x = new Told();
                x.set(v, 1).due(0);
                for (int w = 0; w < 40; w++) {
                    x.get(w).due(w == v ? 1 : 0);
                }
                x.set(v, 0).due(1);
                x.get(v).due(0);
            }
        });
        test("set: .. what it was", () -> {
            Told x = new Told();
            for (int v = 0; v < 40; v++) {
                x.set(v, 0).due(0);
                x.set(v, 1).due(0);
                x.set(v, 1).due(1);
                x.set(v, 0).due(1);
                x.set(v, 0).due(0);
            }
            // Also what a coil made of it.
            x = tested(1, 0);
            x.scan().due(1);
            x.set(39, 0).due(1);
        });
        test("set: .. BAD, of a variable", () -> {
            Told x = lively();
            for (int n : outside(0, 39)) {
                x.set(n, 0).due(BAD);
                x.set(n, 1).due(BAD);
            }
            lives(x);
        });
        test("set: .. BAD, of a value", () -> {
            Told x = lively();
            for (int n : outside(0, 1)) {
                x.set(0, n).due(BAD);
                x.set(1, n).due(BAD);
                x.set(39, n).due(BAD);
            }
            lives(x);
        });
        test("get: A variable", () -> {
            Told x = new Told();
            for (int v = 0; v < 40; v++) {
                x.set(v, v % 5 == 1 ? 1 : 0).due(0);
            }
            for (int v = 39; v >= 0; v--) {
                x.get(v).due(v % 5 == 1 ? 1 : 0);
                x.get(v).due(v % 5 == 1 ? 1 : 0);
            }
        });
        test("get: .. BAD", () -> {
            Told x = lively();
            for (int n : outside(0, 39)) {
                x.get(n).due(BAD);
            }
            lives(x);
        });
    }

    // ---- Promise 7: scan

    private static void promise7() {
        test("scan: how many coils (6 to 9) had power to their left: none and all", () -> {
            for (int kind = 6; kind <= 9; kind++) {
                Told x = rung(12, 2);
                x.scan().due(0);
                for (int row = 0; row < 12; row++) {
                    x.cell(row, 1, kind, row).due(0);
                }
                x.scan().due(0);
                for (int row = 0; row < 12; row++) {
                    x.cell(row, 0, 1, 0).due(0);
                    x.scan().due(row + 1);
                }
            }
        });
        test("scan: how many coils (6 to 9): no other cell", () -> {
            Told x = rung(6, 1);
            for (int kind = 0; kind <= 5; kind++) {
                x.cell(kind, 0, kind, kind).due(0);
                x.set(kind, 1).due(0);
            }
            x.scan().due(0);
            x.cell(0, 0, 6, 0).due(0);
            x.scan().due(1);
        });
        test("scan: .. had power to their left: not whether a variable changed", () -> {
            Told x = rung(4, 1);
            for (int row = 0; row < 4; row++) {
                x.cell(row, 0, 6 + row, row).due(0);
            }
            x.scan().due(4);
            x.scan().due(4);
        });
        test("scan: one rung of one cell, and the greatest one", () -> {
            Told x = new Told();
            x.scan().due(0);
            x.cell(0, 0, 6, 0).due(0);
            x.scan().due(1);
            x = full(12, 12, 1);
            for (int row = 0; row < 12; row++) {
                x.cell(row, 11, 6, row).due(1);
            }
            x.scan().due(12);
            x.cell(0, 0, 0, 0).due(1);
            x.scan().due(11);
            x.link(0, 11, true).due(0);
            x.scan().due(12);
        });
    }

    // ---- Promise 8: power

    private static void promise8() {
        test("power: Whether a row had power at a line of 0 .. c - 1", () -> {
            Told x = rung(12, 12);
            // Row k lets power through its first k columns.
            for (int row = 0; row < 12; row++) {
                for (int column = 0; column < row; column++) {
                    x.cell(row, column, 1, 0).due(0);
                }
            }
            x.scan().due(0);
            for (int row = 0; row < 12; row++) {
                for (int line = 0; line <= 11; line++) {
                    x.power(row, line).due(line <= row ? 1 : 0);
                }
            }
        });
        test("power: .. in the last scan", () -> {
            Told x = rung(1, 2);
            x.cell(0, 0, 2, 0).due(0);
            x.cell(0, 1, 7, 0).due(0);
            x.scan().due(0);
            // By now the coil has made the contact's variable 1.
            x.power(0, 1).due(0);
            x.scan().due(1);
            x.power(0, 1).due(1);
            x.set(0, 1).due(0);
            x.set(0, 0).due(1);
            x.power(0, 1).due(1);
            x.power(0, 1).due(1);
            x.scan().due(0);
            x.power(0, 1).due(0);
        });
        test("power: .. line c: as well", () -> {
            for (int c = 1; c <= 12; c++) {
                Told x = rung(6, c);
                for (int row = 0; row < 6; row++) {
                    for (int column = 0; column < c - 1; column++) {
                        x.cell(row, column, 1, 0).due(0);
                    }
                    x.cell(row, c - 1, row, row).due(0);
                    x.set(row, 1).due(0);
                }
                x.scan().due(0);
                int[] want = {0, 1, 1, 0, 1, 0};
                for (int row = 0; row < 6; row++) {
                    x.power(row, c).due(want[row]);
                }
            }
        });
        test("power: .. but BAD if its last cell is of 6 to 9", () -> {
            for (int kind = 6; kind <= 9; kind++) {
                for (int coil = 0; coil < 3; coil++) {
                    Told x = full(3, 2, 1);
                    x.cell(coil, 1, kind, 0).due(1);
                    x.scan().due(1);
                    for (int row = 0; row < 3; row++) {
                        x.power(row, 0).due(1);
                        x.power(row, 1).due(1);
                        x.power(row, 2).due(row == coil ? BAD : 1);
                    }
                }
            }
        });
        test("power: BAD: no such row", () -> {
            Told x = lively();
            for (int n : outside(0, 1)) {
                x.power(n, 0).due(BAD);
                x.power(n, 3).due(BAD);
            }
            lives(x);
            x = rung(12, 12);
            x.scan().due(0);
            x.power(11, 0).due(1);
            x.power(12, 0).due(BAD);
        });
        test("power: BAD: no such .. line", () -> {
            Told x = lively();
            for (int n : outside(0, 3)) {
                x.power(0, n).due(BAD);
                x.power(1, n).due(BAD);
            }
            lives(x);
            x = full(12, 12, 1);
            x.scan().due(0);
            x.power(0, 12).due(1);
            x.power(0, 13).due(BAD);
            x.power(11, 13).due(BAD);
        });
        test("power: .. there was none since it changed: a rung without a scan", () -> {
            Told x = new Told();
            x.power(0, 0).due(BAD);
            x.scan().due(0);
            x.power(0, 0).due(1);
            x.begin(3, 3).due(0);
            for (int line = 0; line <= 3; line++) {
                x.power(0, line).due(BAD);
            }
            x.scan().due(0);
            x.power(0, 0).due(1);
            x.begin(3, 3).due(0);
            x.power(0, 0).due(BAD);
        });
        test("power: .. there was none since it changed: a cell", () -> {
            Told x = lively();
            x.cell(1, 1, 3, 3).due(2);
            powerIsNone(x);
            x.scan();
            x.cell(1, 1, 3, 4).due(3);
            powerIsNone(x);
            x.scan();
            x.power(1, 0).due(1);
        });
        test("power: .. there was none since it changed: a link", () -> {
            Told x = lively();
            x.link(0, 1, false).due(1);
            powerIsNone(x);
            x.scan();
            x.link(0, 2, true).due(0);
            powerIsNone(x);
            x.scan();
            x.power(1, 0).due(1);
        });
        test("power: .. since a call that tells cells .. also as they were", () -> {
            Told x = lively();
            x.cell(0, 0, 4, 1).due(4);
            powerIsNone(x);
            x.scan();
            x.cell(1, 0, 0, 0).due(0);
            powerIsNone(x);
            x.scan();
            x.cell(0, 1, 1, -7).due(1);
            powerIsNone(x);
            // Changed, and changed back.
            x.scan();
            x.cell(0, 1, 2, 0).due(1);
            x.cell(0, 1, 1, 0).due(2);
            powerIsNone(x);
        });
        test("power: .. since a call that tells .. links .. also as they were", () -> {
            Told x = lively();
            x.link(0, 1, true).due(1);
            powerIsNone(x);
            x.scan();
            x.link(0, 2, false).due(0);
            powerIsNone(x);
            x.scan();
            x.link(0, 1, false).due(1);
            x.link(0, 1, true).due(0);
            powerIsNone(x);
        });
        test("power: .. and is not refused", () -> {
            Told x = lively();
            x.begin(0, 3).due(BAD);
            x.begin(2, 13).due(BAD);
            x.cell(2, 0, 1, 0).due(BAD);
            x.cell(0, 3, 1, 0).due(BAD);
            x.cell(0, 0, 10, 0).due(BAD);
            x.cell(0, 0, 2, 40).due(BAD);
            x.cell(0, 1, 6, 0).due(BAD);
            x.link(1, 1, true).due(BAD);
            x.link(0, 3, true).due(BAD);
            x.link(0, 0, false).due(BAD);
            lives(x);
        });
        test("power: .. as it is: questions and variables change no rung", () -> {
            Told x = lively();
            x.steps();
            x.groups(1);
            x.groups(4).due(BAD);
            x.get(0);
            x.set(0, 1).due(0);
            x.set(0, 0).due(1);
            x.set(0, 2).due(BAD);
            x.power(5, 5).due(BAD);
            lives(x);
        });
    }

    private static void powerIsNone(Told x) {
        for (int row = 0; row < 2; row++) {
            for (int line = 0; line <= 3; line++) {
                x.power(row, line).due(BAD);
            }
        }
    }

    // ---- Promise 9: steps

    private static void promise9() {
        test("steps: How many steps the plan has: the least", () -> {
            Told x = new Told();
            x.steps().due(2);
            x.cell(0, 0, 1, 0).due(0);
            x.steps().due(2);
            x.cell(0, 0, 6, 0).due(1);
            x.steps().due(2);
        });
        test("steps: How many steps the plan has: the most", () -> {
            Told x = full(12, 12, 4);
            x.steps().due(1296);
            for (int line = 1; line <= 11; line++) {
                for (int row = 0; row < 11; row++) {
                    x.link(row, line, true).due(0);
                }
            }
            x.steps().due(1296);
            for (int row = 0; row < 12; row++) {
                x.cell(row, 11, 9, 0).due(4);
            }
            x.steps().due(11 * 108 + 60);
        });
        test("steps: .. the plan is of cells and links, not of variables and scans", () -> {
            Told x = lively();
            x.steps().due(21);
            x.scan();
            x.set(1, 0).due(1);
            x.steps().due(21);
            x.scan();
            x.steps().due(21);
            x.steps().due(21);
        });
    }

    // ---- Promise 10: groups

    private static void promise10() {
        test("groups: How many groups of rows there are at a line", () -> {
            for (int line = 1; line <= 11; line++) {
                Told x = rung(12, 12);
                for (int row = 0; row < 11; row++) {
                    // Not from one end on: 0, 4, 8, 1, 5, ..
                    int at = row * 4 % 11;
                    x.link(at, line, true).due(0);
                    x.groups(line).due(11 - row);
                }
                for (int other = 0; other <= 12; other++) {
                    x.groups(other).due(other == line ? 1 : 12);
                }
                x.link(5, line, false).due(1);
                x.groups(line).due(2);
            }
        });
        test("groups: .. (0 and c: as many as rows)", () -> {
            for (int r = 1; r <= 12; r++) {
                Told x = rung(r, 3);
                for (int row = 0; row < r - 1; row++) {
                    x.link(row, 1, true).due(0);
                    x.link(row, 2, true).due(0);
                }
                x.groups(0).due(r);
                x.groups(1).due(1);
                x.groups(2).due(1);
                x.groups(3).due(r);
                // Coils have no group in the plan, but are rows at line c as the others are.
                for (int row = 0; row < r; row++) {
                    x.cell(row, 2, 6 + row % 4, 0).due(0);
                }
                x.groups(3).due(r);
                x.begin(r, 1).due(0);
                x.groups(0).due(r);
                x.groups(1).due(r);
            }
        });
        test("groups: .. BAD", () -> {
            Told x = lively();
            for (int n : outside(0, 3)) {
                x.groups(n).due(BAD);
            }
            lives(x);
            x = rung(12, 12);
            x.groups(12).due(12);
            x.groups(13).due(BAD);
            x.groups(-1).due(BAD);
            x = new Told();
            x.groups(1).due(1);
            x.groups(2).due(BAD);
        });
    }
}
