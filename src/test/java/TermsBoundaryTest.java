import java.util.ArrayList;
import java.util.List;

/** Each sentence of the document's 'What it is' and 'Terms' that names a boundary case. */
public final class TermsBoundaryTest {
    private static final int LETTERS = Cabinets.LETTERS;
    private static final int KERNS = Cabinets.KERNS;
    private static final int INKS = Cabinets.INKS;
    private static final int MARKS = Cabinets.MARKS;
    private static final int SLUGS = Cabinets.SLUGS;
    private static final int MAX = Cabinets.MAX;
    private static final int MIN = Cabinets.MIN;

    public static void main(String[] args) {
        usedFor512Calls();
        whatIsRefused();
        refusedChangesNothing();
        fiveTrays();
        rangeOfLetters();
        rangeOfKerns();
        marksAreTruths();
        rangeOfSlugs();
        outAtFirst();
        noneToThirtyPlaces();
        supplyOfForty();
        oldestIsDrawn();
        noneIsDrawnAsZero();
        lettersWithoutSign();
        kernsWithSign();
        inksTheNearest();
        inksTimesAQuarter();
        marksOfOdd();
        slugsWithSign();
        itselfAsANumber();
        bitsAsANumber();
        oneOrZeroAsANumber();
        wholeTowardsZero();
        wholeBeyondTheInts();
        noFormeAtFirst();
        refusalOne();
        refusalTwo();
        refusalThree();
        refusalFour();
        refusalFive();
        firstThatHoldsIsTold();
        noTrayIsTheFirst();
        refusedAnswersNone();
        latestIsTold();
        notRefusedIsZero();
        supplysCallsLeaveIt();
        Checks.end();
    }

    private static void usedFor512Calls() {
        Checks.sentence("An object is used for at most 512 calls after it has been made");
        TypeCabinet x = new TypeCabinet();
        x.pull(KERNS, 1);
        for (int n = 0; n < 255; n++) {
            x.push(n);
            Checks.due("set " + n, x.set(KERNS, 0), n);
        }
        Checks.due("call 512", x.get(KERNS, 0), 254);
    }

    private static void whatIsRefused() {
        Checks.sentence("Whatever is asked of a tray that is out, of a place, line or column that"
            + " there isn't, of a count that can't be, is refused by a number");
        TypeCabinet x = Cabinets.filled();
        x.out(MARKS);
        Call.get(MARKS, 0).isRefused(x, 1);
        Call.get(LETTERS, 3).isRefused(x, 2);
        Call.cell(2, 0).isRefused(x, 2);
        Call.cell(0, 3).isRefused(x, 2);
        Call.pull(MARKS, -1).isRefused(x, 3);
        Call.pull(MARKS, 31).isRefused(x, 4);
    }

    /** Every refused call on a filled cabinet, but those of set() that draw. */
    private static List<Call> refusedCalls() {
        List<Call> calls = new ArrayList<>();
        for (int none : Call.NO_TRAYS) {
            calls.addAll(Call.namingTray(none, LETTERS));
        }
        for (int tray = 0; tray < 5; tray++) {
            for (int i : new int[] {-1, 3, 30, MAX, MIN}) {
                calls.addAll(List.of(Call.get(tray, i), Call.add(tray, i), Call.step(tray, i)));
            }
            for (int n : new int[] {-1, 31, MAX, MIN}) {
                calls.addAll(Call.withCount(tray, n));
            }
            for (int line : new int[] {-1, 2, 30, MAX, MIN}) {
                calls.add(Call.compose(line, tray));
            }
        }
        for (int none : new int[] {-1, 3, 30, MAX, MIN}) {
            calls.addAll(List.of(Call.cell(none, 0), Call.cell(0, none), Call.sheet(none)));
        }
        return calls;
    }

    private static void refusedChangesNothing() {
        Checks.sentence("what is refused changes nothing but that number, and what was drawn");
        String standing = Cabinets.standing(Cabinets.filled());
        for (Call call : refusedCalls()) {
            TypeCabinet x = Cabinets.filled();
            call.on(x);
            Checks.due("supply behind " + call.text(), Cabinets.supplyOf(x), "91 92 93 94 (4)");
            Checks.due("standing behind " + call.text(), Cabinets.standing(x), standing);
        }
        for (int tray = 0; tray < 5; tray++) {
            for (int i : new int[] {-1, 3, 30, MAX, MIN}) {
                TypeCabinet x = Cabinets.filled();
                x.set(tray, i);
                Checks.due("supply behind set()", Cabinets.supplyOf(x), "92 93 94 (3)");
                Checks.due("standing behind set()", Cabinets.standing(x), standing);
            }
            refusedByOneChangesNothing(tray);
        }
    }

    private static void refusedByOneChangesNothing(int out) {
        TypeCabinet same = Cabinets.filled();
        same.out(out);
        same.melt();
        String standing = Cabinets.standing(same);
        int other = (out + 1) % 5;
        List<Call> calls = new ArrayList<>(Call.needingTray(out, other));
        calls.addAll(Call.needingForme(other));
        for (Call call : calls) {
            TypeCabinet x = Cabinets.filled();
            x.out(out);
            x.melt();
            boolean draws = call.text().startsWith("set");
            call.isRefused(x, 1);
            String supply = draws ? "92 93 94 (3)" : "91 92 93 94 (4)";
            Checks.due("supply behind " + call.text(), Cabinets.supplyOf(x), supply);
            Checks.due("standing behind " + call.text(), Cabinets.standing(x), standing);
        }
    }

    private static void fiveTrays() {
        Checks.sentence("TRAYS 0 .. 4");
        TypeCabinet x = new TypeCabinet();
        for (int tray = 0; tray <= 4; tray++) {
            Checks.granted(x, "pull(" + tray + ", 1)", x.pull(tray, 1), 1);
        }
        for (int none : Call.NO_TRAYS) {
            Call.pull(none, 1).isRefused(x, 5);
        }
    }

    /** A number of the supply comes to the place 0 of the tray, which becomes this number. */
    private static void sets(int tray, int v, int want) {
        TypeCabinet x = Cabinets.withTrays(1);
        Checks.due("set of " + v, Checks.pushAndSet(x, tray, 0, v), want);
        Checks.due("get behind set of " + v, x.get(tray, 0), want);
    }

    private static void adds(int tray, int there, int v, int want) {
        TypeCabinet x = Cabinets.withTrays(1);
        Checks.pushAndSet(x, tray, 0, there);
        Checks.due("add of " + v + " to " + there, Checks.pushAndAdd(x, tray, 0, v), want);
    }

    private static void steps(int tray, int there, int want) {
        TypeCabinet x = Cabinets.withTrays(1);
        Checks.pushAndSet(x, tray, 0, there);
        Checks.due("step of " + there, x.step(tray, 0), there);
        Checks.due("get behind step of " + there, x.get(tray, 0), want);
    }

    /** The least and the greatest, and how each goes over into the other. */
    private static void range(int tray, int least, int greatest) {
        sets(tray, least, least);
        sets(tray, greatest, greatest);
        sets(tray, least - 1, greatest);
        sets(tray, greatest + 1, least);
        adds(tray, least, -1, greatest);
        adds(tray, greatest, 1, least);
        steps(tray, greatest - 1, greatest);
        steps(tray, greatest, least);
    }

    private static void rangeOfLetters() {
        Checks.sentence("0 LETTERS (numbers 0 .. 65535)");
        range(LETTERS, 0, 65535);
    }

    private static void rangeOfKerns() {
        Checks.sentence("1 KERNS (-32768 .. 32767)");
        range(KERNS, -32768, 32767);
    }

    private static void marksAreTruths() {
        Checks.sentence("3 MARKS (truths)");
        range(MARKS, 0, 1);
    }

    private static void rangeOfSlugs() {
        Checks.sentence("4 SLUGS (-128 .. 127)");
        range(SLUGS, -128, 127);
    }

    private static void outAtFirst() {
        Checks.sentence("A tray is OUT (all are at first)");
        TypeCabinet x = new TypeCabinet();
        for (int tray = 0; tray < 5; tray++) {
            Call.places(tray).isRefused(x, 1);
        }
        for (int tray = 0; tray < 5; tray++) {
            Checks.due("out(" + tray + ")", x.out(tray), false);
        }
    }

    private static void noneToThirtyPlaces() {
        Checks.sentence("or IN with 0 to 30 PLACES 0, 1, ..");
        for (int tray = 0; tray < 5; tray++) {
            TypeCabinet x = new TypeCabinet();
            x.pull(tray, 0);
            Checks.granted(x, "IN without places", x.places(tray), 0);
            Call.get(tray, 0).isRefused(x, 2);
            x.pull(tray, 30);
            Checks.granted(x, "IN with the most", x.places(tray), 30);
            Call.get(tray, 0).isGranted(x);
            Call.get(tray, 29).isGranted(x);
            Call.get(tray, 30).isRefused(x, 2);
            Call.get(tray, -1).isRefused(x, 2);
        }
    }

    private static void supplyOfForty() {
        Checks.sentence("The SUPPLY is a row of ints, at most 40.");
        TypeCabinet x = new TypeCabinet();
        x.push(MIN);
        x.push(MAX);
        Checks.due("the least int", x.left(0), MIN);
        Checks.due("the greatest int", x.left(1), MAX);
        for (int n = 3; n <= 39; n++) {
            x.push(n);
        }
        Checks.due("the 40th comes", x.push(40), 40);
        Checks.due("the 41st does not", x.push(41), TypeCabinet.NONE);
        Checks.due("still 40", x.supply(), 40);
    }

    private static void oldestIsDrawn() {
        Checks.sentence("To DRAW: its oldest number goes, and is what is drawn");
        TypeCabinet x = Cabinets.withFullSupply();
        x.pull(KERNS, 1);
        // Twice around: a number that comes behind a full supply that has been drawn from.
        for (int n = 0; n < 90; n++) {
            Checks.due("drawn " + n, x.set(KERNS, 0), 1000 + n);
            Checks.due("one less", x.supply(), 39);
            Checks.due("comes behind", x.push(1040 + n), 40);
        }
        for (int left = 39; left >= 0; left--) {
            Checks.due("drawn", x.set(KERNS, 0), 1129 - left);
            Checks.due("one less", x.supply(), left);
        }
    }

    private static void noneIsDrawnAsZero() {
        Checks.sentence("0 if it has none");
        for (int tray = 0; tray < 5; tray++) {
            TypeCabinet x = Cabinets.withTrays(1);
            int five = Checks.pushAndSet(x, tray, 0, 5);
            Checks.granted(x, "add of none", x.add(tray, 0), five);
            Checks.granted(x, "set of none", x.set(tray, 0), 0);
            Checks.due("the supply has none", x.supply(), 0);
            Checks.due("the next number is the first", x.push(5), 1);
            Checks.due("and is drawn", x.set(tray, 0), five);
        }
    }

    private static void lettersWithoutSign() {
        Checks.sentence("LETTERS: its lowest 16 bits, without a sign");
        sets(LETTERS, 32768, 32768);
        sets(LETTERS, 65537, 1);
        sets(LETTERS, -32768, 32768);
        sets(LETTERS, 0x12345678, 0x5678);
        sets(LETTERS, 0x7654FEDC, 0xFEDC);
        sets(LETTERS, MAX, 65535);
        sets(LETTERS, MIN, 0);
    }

    private static void kernsWithSign() {
        Checks.sentence("KERNS: its lowest 16 bits, with sign");
        sets(KERNS, 65535, -1);
        sets(KERNS, 65536, 0);
        sets(KERNS, -65536, 0);
        sets(KERNS, 0x12345678, 0x5678);
        sets(KERNS, 0x7654FEDC, 0xFEDC - 65536);
        sets(KERNS, MAX, -1);
        sets(KERNS, MIN, 0);
    }

    private static void inksTheNearest() {
        Checks.sentence("INKS: v as a float (the nearest one; of two the one whose last bit is 0)");
        int[][] nearest = {
            {16777215, 16777215}, {16777216, 16777216}, {16777217, 16777216},
            {16777218, 16777218}, {16777219, 16777220}, {16777221, 16777220},
            {33554434, 33554432}, {33554435, 33554436}, {33554438, 33554440},
            {2147483584, MAX}, {2147483583, 2147483520}, {2147483521, 2147483520}, {MAX, MAX}
        };
        for (int[] pair : nearest) {
            // The greatest int stands for 2^31, which is the nearest float of it.
            double quarter = (pair[1] == MAX ? 2147483648.0 : pair[1]) / 4.0;
            sets(INKS, pair[0], Checks.bits((float) quarter));
            sets(INKS, -pair[0], Checks.bits((float) -quarter));
        }
        sets(INKS, MIN, Checks.bits(-536870912f));
    }

    private static void inksTimesAQuarter() {
        Checks.sentence("times 0.25f");
        sets(INKS, 1, 0x3E800000);
        sets(INKS, 2, 0x3F000000);
        sets(INKS, 3, 0x3F400000);
        sets(INKS, 4, 0x3F800000);
        sets(INKS, -1, 0xBE800000);
        sets(INKS, 0, 0);
    }

    private static void marksOfOdd() {
        Checks.sentence("MARKS: whether v is odd");
        int[] odd = {1, 3, -1, -3, MAX, MIN + 1};
        int[] even = {0, 2, -2, MAX - 1, MIN};
        for (int v : odd) {
            sets(MARKS, v, 1);
        }
        for (int v : even) {
            sets(MARKS, v, 0);
        }
    }

    private static void slugsWithSign() {
        Checks.sentence("SLUGS: its lowest 8 bits, with sign");
        sets(SLUGS, 255, -1);
        sets(SLUGS, 256, 0);
        sets(SLUGS, -256, 0);
        sets(SLUGS, 0x12345678, 0x78);
        sets(SLUGS, 0x765432DC, 0xDC - 256);
        sets(SLUGS, MAX, -1);
        sets(SLUGS, MIN, 0);
    }

    private static void itselfAsANumber() {
        Checks.sentence("LETTERS, KERNS, SLUGS: itself");
        sets(LETTERS, 65535, 65535);
        sets(KERNS, -32768, -32768);
        sets(SLUGS, -128, -128);
    }

    private static void bitsAsANumber() {
        Checks.sentence("INKS: the float's 32 bits as an int");
        // Every power of 2 that a number has, and the numbers beside it.
        for (int shift = 0; shift < 32; shift++) {
            for (int v = (1 << shift) - 1; v != (1 << shift) + 2; v++) {
                sets(INKS, v, Checks.bits(v * 0.25f));
                sets(INKS, -v, Checks.bits(-v * 0.25f));
            }
        }
        TypeCabinet x = Cabinets.withTrays(1);
        Checks.pushAndSet(x, INKS, 0, 3);
        Checks.due("0f has no sign", Checks.pushAndAdd(x, INKS, 0, -3), 0);
    }

    private static void oneOrZeroAsANumber() {
        Checks.sentence("MARKS: 1 or 0");
        TypeCabinet x = Cabinets.withTrays(2);
        x.step(MARKS, 1);
        Checks.due("true", x.get(MARKS, 1), 1);
        Checks.due("false", x.get(MARKS, 0), 0);
    }

    /** What the ink's whole is, told by a line that it is composed to. */
    private static int wholeOf(TypeCabinet x) {
        x.form(1, 1);
        x.compose(0, INKS);
        return x.cell(0, 0);
    }

    private static void wholeTowardsZero() {
        Checks.sentence("INKS: the float's whole part (towards 0");
        int[][] wholes = {
            {0, 0}, {1, 0}, {3, 0}, {4, 1}, {5, 1}, {7, 1}, {8, 2}, {-1, 0}, {-3, 0}, {-4, -1},
            {-5, -1}, {-7, -1}, {-8, -2}, {16777215, 4194303}, {-16777215, -4194303}
        };
        for (int[] pair : wholes) {
            TypeCabinet x = Cabinets.withTrays(1);
            Checks.pushAndSet(x, INKS, 0, pair[0]);
            Checks.due("whole of " + pair[0] + " quarters", wholeOf(x), pair[1]);
            x.pour(INKS, KERNS);
            Checks.due("poured", x.get(KERNS, 0), (short) pair[1]);
        }
    }

    /** An ink of 2^31 less 2^29, and so much more. */
    private static TypeCabinet nearTheGreatest(int sign, int quarters) {
        TypeCabinet x = Cabinets.withTrays(1);
        for (int n = 0; n < 3; n++) {
            Checks.pushAndAdd(x, INKS, 0, sign * (1 << 30));
            Checks.pushAndAdd(x, INKS, 0, sign * (1 << 30));
        }
        Checks.pushAndAdd(x, INKS, 0, sign * quarters);
        return x;
    }

    private static void wholeBeyondTheInts() {
        Checks.sentence("beyond the ints the nearest of these)");
        int under = 2147483136;
        Checks.due("the last float below", wholeOf(nearTheGreatest(1, under)), 2147483520);
        Checks.due("2^31", wholeOf(nearTheGreatest(1, MAX)), MAX);
        Checks.due("the last above -2^31", wholeOf(nearTheGreatest(-1, under)), -2147483520);
        Checks.due("-2^31", wholeOf(nearTheGreatest(-1, MAX)), MIN);
        TypeCabinet above = nearTheGreatest(1, MAX);
        TypeCabinet below = nearTheGreatest(-1, MAX);
        for (int n = 0; n < 40; n++) {
            Checks.pushAndAdd(above, INKS, 0, MAX);
            Checks.pushAndAdd(below, INKS, 0, MIN);
        }
        Checks.due("far above", wholeOf(above), MAX);
        Checks.due("far below", wholeOf(below), MIN);
        above.pour(INKS, LETTERS);
        below.pour(INKS, LETTERS);
        Checks.due("poured from far above", above.get(LETTERS, 0), 65535);
        Checks.due("poured from far below", below.get(LETTERS, 0), 0);
    }

    private static void noFormeAtFirst() {
        Checks.sentence("There is none at first.");
        TypeCabinet x = new TypeCabinet();
        Call.sheet(0).isRefused(x, 1);
        Checks.due("melt()", x.melt(), false);
    }

    private static void refusalOne() {
        Checks.sentence("1 the tray is OUT, or there is no forme.");
        for (int tray = 0; tray < 5; tray++) {
            TypeCabinet x = Cabinets.filled();
            x.out(tray);
            for (Call call : Call.needingTray(tray, (tray + 1) % 5)) {
                call.isRefused(x, 1);
            }
            x.pull(tray, 0);
            x.melt();
            for (Call call : Call.needingForme(tray)) {
                call.isRefused(x, 1);
            }
        }
    }

    private static void refusalTwo() {
        Checks.sentence("2 there is no such place, line or column.");
        TypeCabinet x = Cabinets.filled();
        for (int i : Call.FAR_OFF) {
            for (int tray = 0; tray < 5; tray++) {
                Call.atPlace(tray, i).forEach(call -> call.isRefused(x, 2));
            }
            Call.compose(i, LETTERS).isRefused(x, 2);
            Call.cell(i, 0).isRefused(x, 2);
            Call.cell(0, i).isRefused(x, 2);
        }
        Call.atPlace(KERNS, 2).forEach(call -> call.isGranted(x));
        Call.atPlace(KERNS, 3).forEach(call -> call.isRefused(x, 2));
        Call.compose(1, KERNS).isGranted(x);
        Call.compose(2, KERNS).isRefused(x, 2);
        Call.cell(1, 2).isGranted(x);
        Call.cell(2, 2).isRefused(x, 2);
        Call.cell(1, 3).isRefused(x, 2);
    }

    private static void refusalThree() {
        Checks.sentence("3 a count below 0.");
        TypeCabinet x = new TypeCabinet();
        for (int tray = 0; tray < 5; tray++) {
            Call.withCount(tray, -1).forEach(call -> call.isRefused(x, 3));
            Call.withCount(tray, MIN).forEach(call -> call.isRefused(x, 3));
            Call.withCount(tray, 0).forEach(call -> call.isGranted(x));
        }
    }

    private static void refusalFour() {
        Checks.sentence("4 a count above 30.");
        TypeCabinet x = new TypeCabinet();
        for (int tray = 0; tray < 5; tray++) {
            Call.withCount(tray, 31).forEach(call -> call.isRefused(x, 4));
            Call.withCount(tray, MAX).forEach(call -> call.isRefused(x, 4));
            Call.withCount(tray, 30).forEach(call -> call.isGranted(x));
        }
    }

    private static void refusalFive() {
        Checks.sentence("5 there is no such tray.");
        for (int none : Call.NO_TRAYS) {
            TypeCabinet x = Cabinets.filled();
            for (Call call : Call.namingTray(none, LETTERS)) {
                call.isRefused(x, 5);
            }
        }
        TypeCabinet x = Cabinets.filled();
        for (int tray : new int[] {0, 4}) {
            for (Call call : Call.namingTray(tray, KERNS)) {
                call.isGranted(x);
                x.pull(tray, 3);
            }
        }
    }

    private static void firstThatHoldsIsTold() {
        Checks.sentence("Each call tells those that it has, and the first of them that holds is"
            + " told");
        TypeCabinet x = new TypeCabinet();
        for (Call call : Call.atPlace(INKS, -1)) {
            call.isRefused(x, 1);
        }
        Call.form(-1, 31).isRefused(x, 4);
        Call.form(31, -1).isRefused(x, 4);
        Call.sheet(2).isRefused(x, 1);
        Call.cell(-1, -1).isRefused(x, 1);
        Call.compose(-1, INKS).isRefused(x, 1);
        x.form(1, 1);
        Call.compose(-1, INKS).isRefused(x, 2);
        Call.compose(0, INKS).isRefused(x, 1);
    }

    private static void noTrayIsTheFirst() {
        Checks.sentence("of all that name a tray 5 is the first");
        TypeCabinet x = new TypeCabinet();
        for (int none : Call.NO_TRAYS) {
            for (int wrong : Call.FAR_OFF) {
                Call.atPlace(none, wrong).forEach(call -> call.isRefused(x, 5));
                Call.pull(none, wrong).isRefused(x, 5);
                Call.compose(wrong, none).isRefused(x, 5);
            }
            for (int out = 0; out < 5; out++) {
                Call.pour(out, none).isRefused(x, 5);
                Call.pour(none, out).isRefused(x, 5);
            }
        }
    }

    private static void refusedAnswersNone() {
        Checks.sentence("What is refused answers NONE (a truth: false).");
        TypeCabinet x = Cabinets.filled();
        for (Call call : Call.namingTray(5, LETTERS)) {
            boolean isTruth = call.text().startsWith("out");
            Checks.due(call.text(), call.on(x), isTruth ? 0 : -1);
        }
        Checks.due("pull(0, 31)", x.pull(0, 31), -1);
        Checks.due("form(-1, 1)", x.form(-1, 1), -1);
        Checks.due("sheet(2)", x.sheet(2), -1);
        Checks.due("cell(2, 0)", x.cell(2, 0), -1);
        Checks.due("out(5)", x.out(5), false);
    }

    private static void latestIsTold() {
        Checks.sentence("refused() tells the latest one");
        TypeCabinet x = Cabinets.filled();
        x.out(MARKS);
        Call[] refused = {Call.get(MARKS, 0), Call.cell(9, 9), Call.form(-1, 0), Call.pull(0, 31),
            Call.places(5)};
        for (int first = 0; first < 5; first++) {
            for (int then = 0; then < 5; then++) {
                refused[first].on(x);
                refused[then].on(x);
                String calls = refused[first].text() + ", " + refused[then].text();
                Checks.due("refused() behind " + calls, x.refused(), then + 1);
            }
        }
    }

    private static void notRefusedIsZero() {
        Checks.sentence("and 0 when the latest call was not refused");
        List<Call> granted = new ArrayList<>(Call.atPlace(SLUGS, 0));
        granted.addAll(List.of(Call.pull(0, 0), Call.out(0), Call.out(0), Call.places(SLUGS),
            Call.pour(SLUGS, KERNS), Call.form(0, 0), Call.form(1, 1), Call.sheet(1),
            Call.compose(0, SLUGS), Call.cell(0, 0), Call.melt(), Call.melt()));
        TypeCabinet x = Cabinets.filled();
        for (Call call : granted) {
            x.places(5);
            call.isGranted(x);
        }
    }

    private static void supplysCallsLeaveIt() {
        Checks.sentence("push(), supply(), left() and refused() itself leave that as it is");
        Call[] refused = {Call.get(MARKS, 0), Call.cell(9, 9), Call.form(-1, 0), Call.pull(0, 31),
            Call.places(5)};
        TypeCabinet x = Cabinets.filled();
        x.out(MARKS);
        for (int n = 0; n < 5; n++) {
            refused[n].on(x);
            for (int pushes = 0; pushes < 41; pushes++) {
                x.push(pushes);
            }
            Checks.due("behind push()", x.refused(), n + 1);
            x.supply();
            Checks.due("behind supply()", x.refused(), n + 1);
            x.left(0);
            x.left(40);
            x.left(-1);
            Checks.due("behind left()", x.refused(), n + 1);
            Checks.due("behind refused()", x.refused(), n + 1);
        }
        x.melt();
        Checks.due("push() to a full supply", x.push(1), TypeCabinet.NONE);
        Checks.due("is not told", x.refused(), 0);
        x.left(-1);
        Checks.due("nor is left() of none", x.refused(), 0);
    }
}
