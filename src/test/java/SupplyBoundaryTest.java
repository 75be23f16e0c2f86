/** Each sentence of promises 1 to 5 that names a boundary case. */
public final class SupplyBoundaryTest {
    private static final int MAX = Cabinets.MAX;
    private static final int MIN = Cabinets.MIN;

    public static void main(String[] args) {
        newObject();
        pushTellsHowMany();
        pushToAFullSupply();
        supplyFromNoneToFull();
        leftIsTheNext();
        leftOfNoneSuch();
        refusedAtItsEdges();
        Checks.end();
    }

    private static void newObject() {
        Checks.sentence("All trays OUT, nothing in the SUPPLY, no forme; no call refused.");
        Checks.due("refused()", new TypeCabinet().refused(), 0);
        TypeCabinet x = new TypeCabinet();
        Checks.due("the supply", Cabinets.supplyOf(x), "(0)");
        Checks.due("refused() behind the supply's calls", x.refused(), 0);
        Checks.due("trays and forme", Cabinets.standing(x),
            "tray 0: OUT; tray 1: OUT; tray 2: OUT; tray 3: OUT; tray 4: OUT; no forme");
        TypeCabinet used = Cabinets.filled();
        used.places(5);
        Checks.due("beside a used one", new TypeCabinet().refused(), 0);
        Checks.due("beside a used one", new TypeCabinet().supply(), 0);
        Call.places(0).isRefused(new TypeCabinet(), 1);
    }

    private static void pushTellsHowMany() {
        Checks.sentence("v comes behind the SUPPLY: how many numbers it has");
        TypeCabinet x = new TypeCabinet();
        Checks.due("to none", x.push(MIN), 1);
        Checks.due("to one", x.push(MAX), 2);
        Checks.due("behind the first", Cabinets.supplyOf(x), MIN + " " + MAX + " (2)");
        x.set(0, 0);
        x.set(0, 0);
        x.set(0, 0);
        Checks.due("to none again", x.push(7), 1);
        Checks.due("alone", Cabinets.supplyOf(x), "7 (1)");
        for (int n = 2; n <= 40; n++) {
            Checks.due("push " + n, x.push(n), n);
        }
    }

    private static void pushToAFullSupply() {
        Checks.sentence("NONE, and it does not come, when it has 40");
        TypeCabinet x = Cabinets.withFullSupply();
        String full = Cabinets.supplyOf(x);
        for (int v : new int[] {0, -1, MAX, MIN}) {
            Checks.due("push(" + v + ")", x.push(v), TypeCabinet.NONE);
        }
        Checks.due("the supply", Cabinets.supplyOf(x), full);
        x.set(0, 0);
        Checks.due("when one has been drawn", x.push(5), 40);
        Checks.due("it is the last", x.left(39), 5);
        Checks.due("when full again", x.push(6), TypeCabinet.NONE);
        Checks.due("the last stays", x.left(39), 5);
        Checks.due("the first stays", x.left(0), 1001);
    }

    private static void supplyFromNoneToFull() {
        Checks.sentence("How many numbers the SUPPLY has.");
        TypeCabinet x = new TypeCabinet();
        x.set(0, 0);
        Checks.due("none", x.supply(), 0);
        for (int n = 1; n <= 40; n++) {
            x.push(n);
            Checks.due("supply() of " + n, x.supply(), n);
        }
        x.push(41);
        Checks.due("full", x.supply(), 40);
        for (int n = 39; n >= 0; n--) {
            x.set(0, 0);
            Checks.due("supply() of " + n, x.supply(), n);
        }
        x.set(0, 0);
        Checks.due("none again", x.supply(), 0);
    }

    private static void leftIsTheNext() {
        Checks.sentence("The number of the SUPPLY that is drawn behind k others (k 0: next)");
        TypeCabinet x = Cabinets.withFullSupply();
        // From the middle of the row on, so that the numbers go around its end.
        for (int n = 0; n < 25; n++) {
            x.set(0, 0);
            x.push(2000 + n);
        }
        for (int k = 0; k < 40; k++) {
            Checks.due("left(" + k + ")", x.left(k), k < 15 ? 1025 + k : 1985 + k);
        }
        Checks.due("draws none", x.supply(), 40);
        x.pull(1, 1);
        Checks.due("next", x.set(1, 0), 1025);
        Checks.due("left(0) then", x.left(0), 1026);
        Checks.due("left(38) then", x.left(38), 2024);
        Checks.due("left(39) then", x.left(39), 0);
    }

    private static void leftOfNoneSuch() {
        Checks.sentence("0 if it has none such");
        TypeCabinet x = new TypeCabinet();
        int[] ks = {0, 1, -1, 39, 40, MAX, MIN};
        for (int k : ks) {
            Checks.due("left(" + k + ") of none", x.left(k), 0);
        }
        x.push(8);
        Checks.due("left(0) of one", x.left(0), 8);
        for (int n = 1; n < ks.length; n++) {
            Checks.due("left(" + ks[n] + ") of one", x.left(ks[n]), 0);
        }
        x.set(0, 0);
        Checks.due("left(0) of what is drawn", x.left(0), 0);
        Checks.due("left(-1) of what is drawn", x.left(-1), 0);
        TypeCabinet full = Cabinets.withFullSupply();
        for (int k : new int[] {-1, -40, 40, 41, 80, MAX, MIN}) {
            Checks.due("left(" + k + ") of 40", full.left(k), 0);
        }
        Checks.due("left(39) of 40", full.left(39), 1039);
        for (int left = 39; left >= 0; left--) {
            full.set(0, 0);
            for (int k = left; k < 40; k += 13) {
                Checks.due("left(" + k + ") of " + left, full.left(k), 0);
            }
        }
    }

    private static void refusedAtItsEdges() {
        Checks.sentence("`int refused()`: See REFUSALS.");
        TypeCabinet x = new TypeCabinet();
        Checks.due("no call yet", x.refused(), 0);
        x.out(0);
        Checks.due("a false that is no refusal", x.refused(), 0);
        x.melt();
        Checks.due("a false that is no refusal", x.refused(), 0);
        x.pull(1, 1);
        Checks.due("an answer that is NONE", Checks.pushAndSet(x, 1, 0, -1), -1);
        Checks.due("and no refusal", x.refused(), 0);
        x.out(5);
        Checks.due("a false that is one", x.refused(), 5);
        x.out(1);
        Checks.due("behind it", x.refused(), 0);
    }
}
