/** Promises 14 to 18: form, melt, sheet, compose, cell. */
public final class FormeTest {
    private static final int LETTERS = 0;
    private static final int KERNS = 1;
    private static final int INKS = 2;
    private static final int MARKS = 3;
    private static final int SLUGS = 4;

    private static final int MAX = Integer.MAX_VALUE;
    private static final int MIN = Integer.MIN_VALUE;

    public static void main(String[] args) {
        form();
        formRefuses();
        formForgets();
        melt();
        sheet();
        compose();
        composeTakesWholes();
        composeAsFarAsBothGo();
        composeRefusesInOrder();
        cell();
        everyCellIsItsOwn();
        Checks.end();
    }

    private static void form() {
        int[] counts = {0, 1, 2, 29, 30};
        for (int lines : counts) {
            for (int columns : counts) {
                TypeCabinet x = new TypeCabinet();
                String call = "14: form(" + lines + ", " + columns + ")";
                Checks.granted(x, call, x.form(lines, columns), lines * columns);
                Checks.granted(x, call + " lines", x.sheet(0), lines);
                Checks.granted(x, call + " columns", x.sheet(1), lines == 0 ? 0 : columns);
                if (lines > 0 && columns > 0) {
                    Checks.granted(x, call + " first", x.cell(0, 0), 0);
                    Checks.granted(x, call + " last", x.cell(lines - 1, columns - 1), 0);
                }
                Checks.refused(x, call + " line beyond", x.cell(lines, 0), 2);
                Checks.refused(x, call + " column beyond", x.cell(0, columns), 2);
            }
        }
    }

    private static void formRefuses() {
        TypeCabinet x = new TypeCabinet();
        Checks.refused(x, "14: form(31, 1)", x.form(31, 1), 4);
        Checks.refused(x, "14: form(1, 31)", x.form(1, 31), 4);
        Checks.refused(x, "14: form(-1, 1)", x.form(-1, 1), 3);
        Checks.refused(x, "14: form(1, -1)", x.form(1, -1), 3);
        Checks.refused(x, "14: form(-1, 31)", x.form(-1, 31), 4);
        Checks.refused(x, "14: form(31, -1)", x.form(31, -1), 4);
        Checks.refused(x, "14: form(MIN, MAX)", x.form(MIN, MAX), 4);
        Checks.refused(x, "14: form(MAX, MIN)", x.form(MAX, MIN), 4);
        Checks.refused(x, "14: form(MIN, MIN)", x.form(MIN, MIN), 3);
        Checks.refused(x, "14: form(0, 31)", x.form(0, 31), 4);
        Checks.refused(x, "14: form(0, -1)", x.form(0, -1), 3);
        Checks.refused(x, "14: still no forme", x.sheet(0), 1);
        composed(x, 2, 3);
        x.form(31, 1);
        x.form(1, -1);
        Checks.due("14: lines stay", x.sheet(0), 2);
        Checks.due("14: columns stay", x.sheet(1), 3);
        Checks.due("14: cells stay", x.cell(1, 2), 3);
    }

    /** A new forme, all lines of it composed with 1, 2, 3, .. */
    private static void composed(TypeCabinet x, int lines, int columns) {
        x.form(lines, columns);
        x.pull(LETTERS, columns);
        for (int i = 0; i < columns; i++) {
            Checks.pushAndSet(x, LETTERS, i, i + 1);
        }
        for (int line = 0; line < lines; line++) {
            x.compose(line, LETTERS);
        }
    }

    private static void formForgets() {
        TypeCabinet x = new TypeCabinet();
        composed(x, 4, 5);
        Checks.granted(x, "14: smaller", x.form(2, 2), 4);
        Checks.refused(x, "14: fewer lines", x.cell(2, 0), 2);
        Checks.refused(x, "14: fewer columns", x.cell(0, 2), 2);
        Checks.granted(x, "14: larger", x.form(5, 4), 20);
        for (int line = 0; line < 5; line++) {
            for (int column = 0; column < 4; column++) {
                Checks.granted(x, "14: all 0", x.cell(line, column), 0);
            }
        }
    }

    private static void melt() {
        TypeCabinet x = new TypeCabinet();
        Checks.due("15: without a forme", x.melt(), false);
        Checks.due("15: refused()", x.refused(), 0);
        composed(x, 2, 2);
        x.get(LETTERS, 9);
        Checks.due("15: with a forme", x.melt(), true);
        Checks.due("15: refused()", x.refused(), 0);
        Checks.refused(x, "15: none any more", x.sheet(0), 1);
        Checks.refused(x, "15: no cell", x.cell(0, 0), 1);
        Checks.refused(x, "15: no line", x.compose(0, LETTERS), 1);
        Checks.due("15: again", x.melt(), false);
        x.form(2, 2);
        Checks.granted(x, "15: what it had is gone", x.cell(1, 1), 0);
        x.form(0, 0);
        Checks.due("15: a forme without lines", x.melt(), true);
        Checks.due("15: the tray stays", x.places(LETTERS), 2);
    }

    private static void sheet() {
        TypeCabinet x = new TypeCabinet();
        for (int what : new int[] {0, 1, 2, -1, MAX, MIN}) {
            Checks.refused(x, "16: no forme, " + what, x.sheet(what), 1);
        }
        x.form(7, 9);
        Checks.granted(x, "16: lines", x.sheet(0), 7);
        Checks.granted(x, "16: columns", x.sheet(1), 9);
        for (int what : new int[] {2, -1, MAX, MIN}) {
            Checks.refused(x, "16: another, " + what, x.sheet(what), 2);
        }
        x.form(0, 9);
        Checks.granted(x, "16: no lines", x.sheet(0), 0);
        Checks.granted(x, "16: no lines, so no columns", x.sheet(1), 0);
        x.form(9, 0);
        Checks.granted(x, "16: lines without columns", x.sheet(0), 9);
        Checks.granted(x, "16: no columns", x.sheet(1), 0);
    }

    private static void compose() {
        int[] pushed = {70001, -5, 130};
        int[][] due = {{4465, 65531, 130}, {4465, -5, 130}, {17500, -1, 32}, {1, 1, 0},
            {113, -5, -126}};
        TypeCabinet x = new TypeCabinet();
        x.form(6, 3);
        for (int tray = 0; tray < 5; tray++) {
            x.pull(tray, 3);
            for (int i = 0; i < 3; i++) {
                Checks.pushAndSet(x, tray, i, pushed[i]);
            }
            Checks.granted(x, "17: compose of tray " + tray, x.compose(tray, tray), 3);
        }
        for (int tray = 0; tray < 5; tray++) {
            for (int i = 0; i < 3; i++) {
                Checks.granted(x, "17: tray " + tray, x.cell(tray, i), due[tray][i]);
            }
        }
        Checks.due("17: line 5 untouched", x.cell(5, 0), 0);
        Checks.due("17: a tray keeps what it has", x.get(KERNS, 1), -5);
        x.step(KERNS, 1);
        Checks.due("17: the line is no tray", x.cell(1, 1), -5);
    }

    private static void composeTakesWholes() {
        TypeCabinet x = new TypeCabinet();
        x.form(1, 6);
        x.pull(INKS, 6);
        Checks.pushAndSet(x, INKS, 0, 3);
        Checks.pushAndSet(x, INKS, 1, -3);
        Checks.pushAndSet(x, INKS, 2, -7);
        Checks.pushAndSet(x, INKS, 3, MAX);
        for (int n = 0; n < 5; n++) {
            Checks.pushAndAdd(x, INKS, 4, MAX);
            Checks.pushAndAdd(x, INKS, 5, MIN);
        }
        Checks.granted(x, "17: of inks", x.compose(0, INKS), 6);
        int[] due = {0, 0, -1, 536870912, MAX, MIN};
        for (int i = 0; i < 6; i++) {
            Checks.granted(x, "17: whole of ink " + i, x.cell(0, i), due[i]);
        }
    }

    private static void composeAsFarAsBothGo() {
        TypeCabinet x = new TypeCabinet();
        composed(x, 2, 4);
        x.pull(SLUGS, 2);
        Checks.pushAndSet(x, SLUGS, 0, 50);
        Checks.pushAndSet(x, SLUGS, 1, 51);
        Checks.granted(x, "17: fewer places", x.compose(1, SLUGS), 2);
        int[] due = {50, 51, 3, 4};
        for (int i = 0; i < 4; i++) {
            Checks.due("17: line 1", x.cell(1, i), due[i]);
            Checks.due("17: line 0 untouched", x.cell(0, i), i + 1);
        }
        x.pull(SLUGS, 30);
        Checks.granted(x, "17: fewer columns", x.compose(0, SLUGS), 4);
        Checks.due("17: the next line is untouched", x.cell(1, 0), 50);
        x.pull(SLUGS, 0);
        Checks.granted(x, "17: no places", x.compose(1, SLUGS), 0);
        x.form(2, 0);
        Checks.granted(x, "17: no columns", x.compose(1, LETTERS), 0);
    }

    private static void composeRefusesInOrder() {
        TypeCabinet x = new TypeCabinet();
        int[] none = {-1, 5, MAX, MIN};
        for (int tray : none) {
            Checks.refused(x, "17: no tray, no forme", x.compose(0, tray), 5);
        }
        Checks.refused(x, "17: no forme, OUT", x.compose(0, MARKS), 1);
        Checks.refused(x, "17: no forme, no line, OUT", x.compose(-1, MARKS), 1);
        x.pull(LETTERS, 2);
        Checks.refused(x, "17: no forme", x.compose(0, LETTERS), 1);
        x.form(2, 2);
        for (int line : new int[] {-1, 2, 30, MAX, MIN}) {
            Checks.refused(x, "17: no line", x.compose(line, LETTERS), 2);
            Checks.refused(x, "17: no line, OUT", x.compose(line, MARKS), 2);
            Checks.refused(x, "17: no line, no tray", x.compose(line, 5), 5);
        }
        Checks.refused(x, "17: OUT", x.compose(0, MARKS), 1);
        for (int tray : none) {
            Checks.refused(x, "17: no tray", x.compose(0, tray), 5);
        }
        x.form(0, 2);
        Checks.refused(x, "17: no lines", x.compose(0, LETTERS), 2);
    }

    private static void cell() {
        TypeCabinet x = new TypeCabinet();
        Checks.refused(x, "18: no forme", x.cell(0, 0), 1);
        Checks.refused(x, "18: no forme, no line", x.cell(-1, -1), 1);
        composed(x, 2, 3);
        Checks.granted(x, "18: cell(1, 2)", x.cell(1, 2), 3);
        for (int none : new int[] {-1, 3, 30, MAX, MIN}) {
            Checks.refused(x, "18: no line " + none, x.cell(none, 0), 2);
            Checks.refused(x, "18: no column " + none, x.cell(0, none), 2);
        }
        Checks.refused(x, "18: cell(2, 0)", x.cell(2, 0), 2);
        Checks.refused(x, "18: cell(1, -1)", x.cell(1, -1), 2);
    }

    private static void everyCellIsItsOwn() {
        // A new object for each line looked at: past 512 calls the answers are free.
        for (int line = 0; line < 30; line++) {
            TypeCabinet x = composedAsSteps();
            for (int column = 0; column < 30; column++) {
                int want = column <= line ? 100 + column : 0;
                Checks.granted(x, "18: each its own", x.cell(line, column), want);
            }
        }
    }

    /** The greatest forme; line n has 100, 101, .. up to column n, and 0 behind it. */
    private static TypeCabinet composedAsSteps() {
        TypeCabinet x = new TypeCabinet();
        x.form(30, 30);
        x.pull(LETTERS, 30);
        for (int line = 0; line < 30; line++) {
            Checks.pushAndSet(x, LETTERS, line, 100 + line);
            x.compose(line, LETTERS);
        }
        return x;
    }
}
