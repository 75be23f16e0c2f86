/** Each sentence of promises 14 to 18 that names a boundary case. */
public final class FormeBoundaryTest {
    private static final int LETTERS = Cabinets.LETTERS;
    private static final int KERNS = Cabinets.KERNS;
    private static final int MARKS = Cabinets.MARKS;
    private static final int SLUGS = Cabinets.SLUGS;
    private static final int MAX = Cabinets.MAX;
    private static final int MIN = Cabinets.MIN;

    public static void main(String[] args) {
        formOfAnySize();
        formInPlaceOfWhatWas();
        formRefusesTheTooMany();
        formRefusesTheTooFew();
        meltTellsWhetherThereWasOne();
        sheetOfAnySize();
        sheetRefusesWithoutAForme();
        sheetRefusesAnotherWhat();
        composesFromColumnZeroOn();
        composesAsFarAsBothGo();
        composeRefusesNoTray();
        composeRefusesWithoutAForme();
        composeRefusesNoSuchLine();
        composeRefusesATrayThatIsOut();
        cellAtTheEnds();
        cellRefuses();
        Checks.end();
    }

    private static void formOfAnySize() {
        Checks.sentence("A forme of so many lines and columns, all 0, in place of what there was:"
            + " lines times columns.");
        int[] counts = {0, 1, 29, 30};
        for (int lines : counts) {
            for (int columns : counts) {
                TypeCabinet x = new TypeCabinet();
                String call = "form(" + lines + ", " + columns + ")";
                Checks.granted(x, call, x.form(lines, columns), lines * columns);
                for (int line = 0; line < lines; line += 14) {
                    for (int column = 0; column < columns; column++) {
                        Checks.granted(x, call + " all 0", x.cell(line, column), 0);
                    }
                }
                Call.cell(lines, 0).isRefused(x, 2);
                Call.cell(0, columns).isRefused(x, 2);
            }
        }
    }

    /** The greatest forme, every cell of it 7; takes 33 calls and what setting takes. */
    private static TypeCabinet fullOfSevens() {
        TypeCabinet x = new TypeCabinet();
        x.pull(LETTERS, 30);
        for (int i = 0; i < 30; i++) {
            Checks.pushAndSet(x, LETTERS, i, 7);
        }
        x.form(30, 30);
        for (int line = 0; line < 30; line++) {
            x.compose(line, LETTERS);
        }
        return x;
    }

    private static void formInPlaceOfWhatWas() {
        Checks.sentence("all 0, in place of what there was");
        for (int line = 0; line < 30; line++) {
            TypeCabinet x = fullOfSevens();
            Checks.due("a cell ahead of that", x.cell(line, 29), 7);
            Checks.granted(x, "none", x.form(0, 0), 0);
            Call.cell(0, 0).isRefused(x, 2);
            Checks.granted(x, "the most again", x.form(30, 30), 900);
            for (int column = 0; column < 30; column++) {
                Checks.due("all 0", x.cell(line, column), 0);
            }
        }
    }

    private static void formRefusesTheTooMany() {
        Checks.sentence("4 (of either)");
        TypeCabinet x = Cabinets.filled();
        String standing = Cabinets.standing(x);
        for (int many : new int[] {31, MAX}) {
            for (int other : new int[] {0, 30, 31, -1, MAX, MIN}) {
                Call.form(many, other).isRefused(x, 4);
                Call.form(other, many).isRefused(x, 4);
            }
        }
        Checks.due("the forme stays", Cabinets.standing(x), standing);
        Call.form(30, 30).isGranted(x);
    }

    private static void formRefusesTheTooFew() {
        Checks.sentence("3 (of either).");
        TypeCabinet x = Cabinets.filled();
        String standing = Cabinets.standing(x);
        for (int few : new int[] {-1, MIN}) {
            for (int other : new int[] {0, 30, -1, MIN}) {
                Call.form(few, other).isRefused(x, 3);
                Call.form(other, few).isRefused(x, 3);
            }
        }
        Checks.due("the forme stays", Cabinets.standing(x), standing);
        Call.form(0, 0).isGranted(x);
    }

    private static void meltTellsWhetherThereWasOne() {
        Checks.sentence("There is no forme any more: whether there was one.");
        TypeCabinet x = new TypeCabinet();
        int[][] sizes = {{0, 0}, {0, 30}, {30, 0}, {1, 1}, {30, 30}};
        for (int[] size : sizes) {
            x.places(5);
            Checks.due("none", x.melt(), false);
            Checks.due("is not refused", x.refused(), 0);
            x.form(size[0], size[1]);
            x.places(5);
            Checks.due("one", x.melt(), true);
            Checks.due("is not refused", x.refused(), 0);
            Call.needingForme(LETTERS).forEach(call -> call.isRefused(x, 1));
        }
        TypeCabinet full = fullOfSevens();
        full.melt();
        full.form(30, 30);
        Checks.due("what it had is gone", full.cell(29, 29), 0);
        TypeCabinet refused = Cabinets.filled();
        refused.form(31, 31);
        Checks.due("a refused form() leaves one", refused.melt(), true);
        refused.form(31, 31);
        Checks.due("a refused form() makes none", refused.melt(), false);
    }

    private static void sheetOfAnySize() {
        Checks.sentence("How many lines the forme has (what 0), or columns (1; 0 when it has no"
            + " lines).");
        TypeCabinet x = new TypeCabinet();
        int[] counts = {0, 1, 29, 30};
        for (int lines : counts) {
            for (int columns : counts) {
                x.form(lines, columns);
                String at = " of form(" + lines + ", " + columns + ")";
                Checks.granted(x, "sheet(0)" + at, x.sheet(0), lines);
                Checks.granted(x, "sheet(1)" + at, x.sheet(1), lines == 0 ? 0 : columns);
            }
        }
    }

    private static void sheetRefusesWithoutAForme() {
        Checks.sentence("1; 2 for another what.");
        TypeCabinet x = new TypeCabinet();
        for (int what : new int[] {0, 1, 2, -1, MAX, MIN}) {
            Call.sheet(what).isRefused(x, 1);
        }
        x.form(0, 0);
        Call.sheet(0).isGranted(x);
        x.melt();
        Call.sheet(0).isRefused(x, 1);
    }

    private static void sheetRefusesAnotherWhat() {
        Checks.sentence("2 for another what");
        TypeCabinet x = new TypeCabinet();
        x.form(3, 4);
        for (int what : new int[] {2, -1, 3, MAX, MIN}) {
            Call.sheet(what).isRefused(x, 2);
        }
    }

    private static void composesFromColumnZeroOn() {
        Checks.sentence("From column 0 on, one by one, the WHOLE of what is in the tray's place of"
            + " that number comes to the line");
        int[][] ends = {{0, 65535}, {-32768, 32767}, {-536870912, 536870912}, {0, 1}, {-128, 127}};
        int[][] pushed = {{0, 65535}, {-32768, 32767}, {MIN, MAX}, {0, 1}, {-128, 127}};
        TypeCabinet x = Cabinets.withTrays(2);
        x.form(5, 2);
        for (int tray = 0; tray < 5; tray++) {
            Checks.pushAndSet(x, tray, 0, pushed[tray][0]);
            Checks.pushAndSet(x, tray, 1, pushed[tray][1]);
            Checks.granted(x, "compose(" + tray + ", " + tray + ")", x.compose(tray, tray), 2);
        }
        for (int tray = 0; tray < 5; tray++) {
            Checks.due("least of tray " + tray, x.cell(tray, 0), ends[tray][0]);
            Checks.due("greatest of tray " + tray, x.cell(tray, 1), ends[tray][1]);
        }
    }

    private static void composesAsFarAsBothGo() {
        Checks.sentence("as far as both go: how many");
        int[][] counts = {{0, 0}, {0, 1}, {1, 0}, {0, 30}, {30, 0}, {1, 2}, {2, 1}, {29, 30},
            {30, 29}, {30, 30}};
        for (int[] pair : counts) {
            TypeCabinet x = new TypeCabinet();
            x.form(3, pair[0]);
            x.pull(SLUGS, pair[1]);
            for (int i = 0; i < pair[1]; i++) {
                Checks.pushAndSet(x, SLUGS, i, i + 1);
            }
            int both = Math.min(pair[0], pair[1]);
            Checks.granted(x, "compose", x.compose(1, SLUGS), both);
            for (int column = 0; column < pair[0]; column++) {
                Checks.due("ahead", x.cell(0, column), 0);
                Checks.due("the line", x.cell(1, column), column < both ? column + 1 : 0);
                Checks.due("behind", x.cell(2, column), 0);
            }
        }
        TypeCabinet x = Cabinets.filled();
        x.pull(MARKS, 1);
        Checks.granted(x, "fewer places", x.compose(0, MARKS), 1);
        Checks.due("place 0 comes", x.cell(0, 0), 0);
        Checks.due("beyond it the line stays", x.cell(0, 1), 18);
    }

    private static void composeRefusesNoTray() {
        Checks.sentence("as far as both go: how many. 5; 1");
        TypeCabinet x = new TypeCabinet();
        for (int none : Call.NO_TRAYS) {
            Call.compose(0, none).isRefused(x, 5);
            Call.compose(-1, none).isRefused(x, 5);
        }
        x.form(1, 1);
        for (int none : Call.NO_TRAYS) {
            Call.compose(0, none).isRefused(x, 5);
            Call.compose(-1, none).isRefused(x, 5);
            Call.compose(1, none).isRefused(x, 5);
        }
    }

    private static void composeRefusesWithoutAForme() {
        Checks.sentence("1, when there is no forme");
        TypeCabinet x = new TypeCabinet();
        x.pull(KERNS, 2);
        for (int line : new int[] {0, -1, 30, MAX, MIN}) {
            Call.compose(line, KERNS).isRefused(x, 1);
            Call.compose(line, LETTERS).isRefused(x, 1);
        }
        x.form(1, 1);
        Call.compose(0, KERNS).isGranted(x);
        x.melt();
        Call.compose(0, KERNS).isRefused(x, 1);
    }

    private static void composeRefusesNoSuchLine() {
        Checks.sentence("2, when there is no such line");
        for (int lines : new int[] {0, 1, 30}) {
            TypeCabinet x = new TypeCabinet();
            x.form(lines, 2);
            x.pull(KERNS, 2);
            for (int line : new int[] {-1, lines, 31, MAX, MIN}) {
                Call.compose(line, KERNS).isRefused(x, 2);
                Call.compose(line, LETTERS).isRefused(x, 2);
            }
            if (lines > 0) {
                Call.compose(0, KERNS).isGranted(x);
                Call.compose(lines - 1, KERNS).isGranted(x);
            }
        }
    }

    private static void composeRefusesATrayThatIsOut() {
        Checks.sentence("1, when the tray is OUT");
        for (int tray = 0; tray < 5; tray++) {
            TypeCabinet x = new TypeCabinet();
            x.form(2, 2);
            Call.compose(0, tray).isRefused(x, 1);
            Call.compose(1, tray).isRefused(x, 1);
            x.pull(tray, 0);
            Checks.granted(x, "IN without places", x.compose(1, tray), 0);
            x.out(tray);
            Call.compose(1, tray).isRefused(x, 1);
        }
    }

    private static void cellAtTheEnds() {
        Checks.sentence("What stands in a line at a column.");
        TypeCabinet x = new TypeCabinet();
        x.form(30, 30);
        x.pull(LETTERS, 30);
        Checks.pushAndSet(x, LETTERS, 0, 11);
        Checks.pushAndSet(x, LETTERS, 29, 12);
        x.compose(0, LETTERS);
        Checks.pushAndSet(x, LETTERS, 0, 13);
        Checks.pushAndSet(x, LETTERS, 29, 14);
        x.compose(29, LETTERS);
        Checks.granted(x, "cell(0, 0)", x.cell(0, 0), 11);
        Checks.granted(x, "cell(0, 29)", x.cell(0, 29), 12);
        Checks.granted(x, "cell(29, 0)", x.cell(29, 0), 13);
        Checks.granted(x, "cell(29, 29)", x.cell(29, 29), 14);
        Checks.granted(x, "cell(1, 0)", x.cell(1, 0), 0);
        Checks.granted(x, "cell(28, 29)", x.cell(28, 29), 0);
    }

    private static void cellRefuses() {
        Checks.sentence("What stands in a line at a column. 1, 2.");
        TypeCabinet x = new TypeCabinet();
        for (int none : Call.FAR_OFF) {
            Call.cell(none, 0).isRefused(x, 1);
            Call.cell(0, none).isRefused(x, 1);
        }
        int[][] sizes = {{0, 0}, {0, 30}, {30, 0}, {1, 1}, {2, 5}, {5, 2}, {30, 30}};
        for (int[] size : sizes) {
            x.form(size[0], size[1]);
            for (int none : new int[] {-1, 31, MAX, MIN}) {
                Call.cell(none, 0).isRefused(x, 2);
                Call.cell(0, none).isRefused(x, 2);
            }
            Call.cell(size[0], 0).isRefused(x, 2);
            Call.cell(0, size[1]).isRefused(x, 2);
            Call.cell(size[0], size[1]).isRefused(x, 2);
        }
        x.melt();
        Call.cell(0, 0).isRefused(x, 1);
    }
}
