import java.util.ArrayList;
import java.util.List;

/** A call with its arguments, so that a sentence about many calls is tried on each of them. */
record Call(String text, int whenRefused, Made made) {
    interface Made {
        /** The answer; a truth counts 1 or 0. */
        int on(TypeCabinet x);
    }

    private static final int FALSE = 0;

    static final int[] NO_TRAYS = {-1, 5, Integer.MAX_VALUE, Integer.MIN_VALUE};

    /** Beside any number of places, lines or columns; the edge of their own is each test's. */
    static final int[] FAR_OFF = {-1, 30, 31, Integer.MAX_VALUE, Integer.MIN_VALUE};

    int on(TypeCabinet x) {
        return made.on(x);
    }

    void isRefused(TypeCabinet x, int why) {
        Checks.due(text, made.on(x), whenRefused);
        Checks.due("refused() behind " + text, x.refused(), why);
    }

    void isGranted(TypeCabinet x) {
        made.on(x);
        Checks.due("refused() behind " + text, x.refused(), 0);
    }

    private static Call number(String name, int a, int b, Made made) {
        return new Call(name + "(" + a + ", " + b + ")", TypeCabinet.NONE, made);
    }

    private static Call number(String name, int a, Made made) {
        return new Call(name + "(" + a + ")", TypeCabinet.NONE, made);
    }

    static Call pull(int tray, int n) {
        return number("pull", tray, n, x -> x.pull(tray, n));
    }

    static Call out(int tray) {
        return new Call("out(" + tray + ")", FALSE, x -> x.out(tray) ? 1 : 0);
    }

    static Call places(int tray) {
        return number("places", tray, x -> x.places(tray));
    }

    static Call get(int tray, int i) {
        return number("get", tray, i, x -> x.get(tray, i));
    }

    static Call set(int tray, int i) {
        return number("set", tray, i, x -> x.set(tray, i));
    }

    static Call add(int tray, int i) {
        return number("add", tray, i, x -> x.add(tray, i));
    }

    static Call step(int tray, int i) {
        return number("step", tray, i, x -> x.step(tray, i));
    }

    static Call pour(int from, int to) {
        return number("pour", from, to, x -> x.pour(from, to));
    }

    static Call form(int lines, int columns) {
        return number("form", lines, columns, x -> x.form(lines, columns));
    }

    static Call melt() {
        return new Call("melt()", FALSE, x -> x.melt() ? 1 : 0);
    }

    static Call sheet(int what) {
        return number("sheet", what, x -> x.sheet(what));
    }

    static Call compose(int line, int tray) {
        return number("compose", line, tray, x -> x.compose(line, tray));
    }

    static Call cell(int line, int column) {
        return number("cell", line, column, x -> x.cell(line, column));
    }

    static List<Call> atPlace(int tray, int i) {
        return List.of(get(tray, i), set(tray, i), add(tray, i), step(tray, i));
    }

    /** All that are refused with 1 when this tray is OUT, the other one and a forme being there. */
    static List<Call> needingTray(int tray, int other) {
        List<Call> calls = new ArrayList<>(atPlace(tray, 0));
        calls.add(places(tray));
        calls.add(pour(tray, other));
        calls.add(pour(other, tray));
        calls.add(pour(tray, tray));
        calls.add(compose(0, tray));
        return calls;
    }

    static List<Call> namingTray(int tray, int other) {
        List<Call> calls = new ArrayList<>(needingTray(tray, other));
        calls.add(pull(tray, 1));
        calls.add(out(tray));
        return calls;
    }

    static List<Call> needingForme(int tray) {
        return List.of(sheet(0), sheet(1), compose(0, tray), cell(0, 0));
    }

    static List<Call> withCount(int tray, int n) {
        return List.of(pull(tray, n), form(n, 1), form(1, n), form(n, n));
    }
}
