/** Promises 1 to 5: a new object, push, supply, left, refused. */
public final class SupplyTest {
    public static void main(String[] args) {
        newObject();
        push();
        supply();
        left();
        refusedTellsTheLatest();
        refusedIsLeftByTheSupplysCalls();
        everyOtherCallMakesItZero();
        Checks.end();
    }

    private static void newObject() {
        TypeCabinet x = new TypeCabinet();
        Checks.due("1: NONE", TypeCabinet.NONE, -1);
        Checks.due("1: refused()", x.refused(), 0);
        Checks.due("1: supply()", x.supply(), 0);
        Checks.due("1: left(0)", x.left(0), 0);
        for (int tray = 0; tray < 5; tray++) {
            Checks.refused(x, "1: places(" + tray + ")", x.places(tray), 1);
        }
        Checks.refused(x, "1: sheet(0)", x.sheet(0), 1);
        for (int tray = 0; tray < 5; tray++) {
            Checks.due("1: out(" + tray + ")", x.out(tray), false);
        }
        Checks.due("1: melt()", x.melt(), false);
        newObjectsShareNothing();
    }

    private static void newObjectsShareNothing() {
        TypeCabinet one = new TypeCabinet();
        TypeCabinet other = new TypeCabinet();
        one.push(5);
        one.pull(0, 2);
        one.form(2, 2);
        one.places(9);
        Checks.due("1: supply() of the other", other.supply(), 0);
        Checks.due("1: refused() of the other", other.refused(), 0);
        Checks.refused(other, "1: places(0) of the other", other.places(0), 1);
        Checks.refused(other, "1: cell(0, 0) of the other", other.cell(0, 0), 1);
    }

    private static void push() {
        TypeCabinet x = new TypeCabinet();
        for (int n = 1; n <= 40; n++) {
            Checks.due("2: push " + n, x.push(n * 1000), n);
        }
        Checks.due("2: push 41", x.push(-7), TypeCabinet.NONE);
        Checks.due("2: supply() when full", x.supply(), 40);
        Checks.due("2: left(39) when full", x.left(39), 40000);
        Checks.due("2: left(40) when full", x.left(40), 0);
        Checks.due("2: left(0) when full", x.left(0), 1000);
        x.set(0, 0);
        Checks.due("2: push behind a draw", x.push(Integer.MIN_VALUE), 40);
        Checks.due("2: left(39) behind it", x.left(39), Integer.MIN_VALUE);
        Checks.due("2: left(0) behind it", x.left(0), 2000);
        Checks.due("2: push when full again", x.push(1), TypeCabinet.NONE);
    }

    private static void supply() {
        TypeCabinet x = new TypeCabinet();
        x.pull(1, 1);
        for (int round = 0; round < 50; round++) {
            x.push(round);
            x.push(-round);
            Checks.due("3: supply() of two", x.supply(), 2);
            Checks.due("3: oldest is drawn", x.set(1, 0), round);
            Checks.due("3: supply() of one", x.supply(), 1);
            Checks.due("3: then the next", x.set(1, 0), -round);
            Checks.due("3: supply() of none", x.supply(), 0);
            Checks.due("3: 0 is drawn of none", x.set(1, 0), 0);
            Checks.due("3: supply() stays 0", x.supply(), 0);
        }
    }

    private static void left() {
        TypeCabinet x = new TypeCabinet();
        x.push(Integer.MAX_VALUE);
        x.push(Integer.MIN_VALUE);
        x.push(-1);
        Checks.due("4: left(0)", x.left(0), Integer.MAX_VALUE);
        Checks.due("4: left(1)", x.left(1), Integer.MIN_VALUE);
        Checks.due("4: left(2)", x.left(2), -1);
        Checks.due("4: left(3)", x.left(3), 0);
        Checks.due("4: left(-1)", x.left(-1), 0);
        Checks.due("4: left(MAX)", x.left(Integer.MAX_VALUE), 0);
        Checks.due("4: left(MIN)", x.left(Integer.MIN_VALUE), 0);
        Checks.due("4: left() draws nothing", x.supply(), 3);
        x.set(0, 0);
        Checks.due("4: left(0) behind a draw", x.left(0), Integer.MIN_VALUE);
        Checks.due("4: left(2) behind a draw", x.left(2), 0);
    }

    private static void refusedTellsTheLatest() {
        TypeCabinet x = new TypeCabinet();
        x.pull(0, 1);
        x.get(0, 5);
        Checks.due("5: a place", x.refused(), 2);
        x.pull(0, -1);
        Checks.due("5: a count below 0", x.refused(), 3);
        x.pull(0, 31);
        Checks.due("5: a count above 30", x.refused(), 4);
        x.get(5, 0);
        Checks.due("5: a tray", x.refused(), 5);
        x.get(1, 0);
        Checks.due("5: an OUT tray", x.refused(), 1);
        x.get(0, 0);
        Checks.due("5: not refused", x.refused(), 0);
    }

    private static void refusedIsLeftByTheSupplysCalls() {
        TypeCabinet x = new TypeCabinet();
        x.get(7, 0);
        for (int n = 0; n < 42; n++) {
            x.push(n);
        }
        Checks.due("5: behind push()", x.refused(), 5);
        x.supply();
        Checks.due("5: behind supply()", x.refused(), 5);
        x.left(-1);
        Checks.due("5: behind left()", x.refused(), 5);
        x.refused();
        Checks.due("5: behind refused()", x.refused(), 5);
        x.melt();
        x.push(1);
        Checks.due("5: a push() without room is none", x.refused(), 0);
    }

    private static void everyOtherCallMakesItZero() {
        TypeCabinet x = new TypeCabinet();
        x.pull(0, 1);
        x.form(1, 1);
        for (int call = 0; call < 13; call++) {
            x.places(-1);
            Checks.due("5: ahead of call " + call, x.refused(), 5);
            grantedCall(x, call);
            Checks.due("5: behind call " + call, x.refused(), 0);
        }
    }

    private static void grantedCall(TypeCabinet x, int call) {
        switch (call) {
            case 0: x.pull(0, 1); break;
            case 1: x.places(0); break;
            case 2: x.get(0, 0); break;
            case 3: x.set(0, 0); break;
            case 4: x.add(0, 0); break;
            case 5: x.step(0, 0); break;
            case 6: x.pour(0, 0); break;
            case 7: x.form(1, 1); break;
            case 8: x.sheet(0); break;
            case 9: x.compose(0, 0); break;
            case 10: x.cell(0, 0); break;
            case 11: x.melt(); break;
            default: x.out(0); break;
        }
    }
}
