/** Each sentence of promises 6 to 13 that names a boundary case. */
public final class TraysBoundaryTest {
    private static final int LETTERS = Cabinets.LETTERS;
    private static final int KERNS = Cabinets.KERNS;
    private static final int INKS = Cabinets.INKS;
    private static final int MARKS = Cabinets.MARKS;
    private static final int SLUGS = Cabinets.SLUGS;
    private static final int MAX = Cabinets.MAX;
    private static final int MIN = Cabinets.MIN;

    public static void main(String[] args) {
        pullMakesAllZero();
        pullForgets();
        pullRefuses();
        outForgets();
        placesRefuses();
        getRefuses();
        setDrawsWhateverIsRefused();
        setInPlaceOfWhatWasThere();
        setRefuses();
        addDrawsNothingIfRefused();
        addsNumbersAsTheTrayHasThem();
        addsInksToTheNearest();
        addsMarks();
        addTellsWhatIsThen();
        stepsNumbersAsTheTrayHasThem();
        stepsInksToTheNearest();
        stepsMarks();
        stepTellsWhatWas();
        stepRefuses();
        poursIntoTheSameOne();
        poursAsTheOtherHasIt();
        poursAsFarAsBothHavePlaces();
        pourRefusesOutOfEither();
        poursIntoFewer();
        pourRefusesNoTrayOfEither();
        Checks.end();
    }

    private static void pullMakesAllZero() {
        Checks.sentence("The tray is IN with n places, each 0, 0f or false");
        for (int tray = 0; tray < 5; tray++) {
            for (int n : new int[] {0, 1, 30}) {
                TypeCabinet x = new TypeCabinet();
                Checks.granted(x, "pull(" + tray + ", " + n + ")", x.pull(tray, n), n);
                Checks.granted(x, "places", x.places(tray), n);
                for (int i = 0; i < n; i++) {
                    Checks.granted(x, "place " + i, x.get(tray, i), 0);
                }
                Call.get(tray, n).isRefused(x, 2);
            }
        }
    }

    private static void pullForgets() {
        Checks.sentence("what it had is gone: n");
        for (int tray = 0; tray < 5; tray++) {
            TypeCabinet x = Cabinets.withTrays(30);
            for (int i = 0; i < 30; i++) {
                Checks.pushAndSet(x, tray, i, 1);
            }
            Checks.granted(x, "as many", x.pull(tray, 30), 30);
            for (int i = 0; i < 30; i++) {
                Checks.due("gone, place " + i, x.get(tray, i), 0);
            }
            Checks.pushAndSet(x, tray, 29, 1);
            Checks.granted(x, "none", x.pull(tray, 0), 0);
            Call.get(tray, 0).isRefused(x, 2);
            x.pull(tray, 30);
            Checks.due("gone for good", x.get(tray, 29), 0);
        }
    }

    private static void pullRefuses() {
        Checks.sentence("what it had is gone: n. 4, 3.");
        for (int tray = 0; tray < 5; tray++) {
            TypeCabinet x = new TypeCabinet();
            Call.pull(tray, 31).isRefused(x, 4);
            Call.pull(tray, MAX).isRefused(x, 4);
            Call.pull(tray, -1).isRefused(x, 3);
            Call.pull(tray, MIN).isRefused(x, 3);
            Call.places(tray).isRefused(x, 1);
            Call.pull(tray, 30).isGranted(x);
            Call.pull(tray, 0).isGranted(x);
        }
    }

    private static void outForgets() {
        Checks.sentence("The tray is OUT, what it had is gone: whether it was IN.");
        for (int tray = 0; tray < 5; tray++) {
            TypeCabinet x = new TypeCabinet();
            Checks.due("never IN", x.out(tray), false);
            Checks.due("is not refused", x.refused(), 0);
            x.pull(tray, 0);
            Checks.due("IN without places", x.out(tray), true);
            Checks.due("OUT", x.out(tray), false);
            x.pull(tray, 30);
            Checks.pushAndSet(x, tray, 0, 1);
            Checks.pushAndSet(x, tray, 29, 1);
            Checks.due("IN with the most", x.out(tray), true);
            Call.places(tray).isRefused(x, 1);
            Call.get(tray, 0).isRefused(x, 1);
            x.pull(tray, 30);
            Checks.due("gone, place 0", x.get(tray, 0), 0);
            Checks.due("gone, place 29", x.get(tray, 29), 0);
        }
    }

    private static void placesRefuses() {
        Checks.sentence("How many places it has. 1.");
        for (int tray = 0; tray < 5; tray++) {
            TypeCabinet x = new TypeCabinet();
            Call.places(tray).isRefused(x, 1);
            x.pull(tray, 0);
            Checks.granted(x, "none", x.places(tray), 0);
            x.pull(tray, 30);
            Checks.granted(x, "the most", x.places(tray), 30);
            x.pull(tray, 31);
            Checks.granted(x, "as before", x.places(tray), 30);
            x.out(tray);
            Call.places(tray).isRefused(x, 1);
        }
    }

    /** OUT, without places, with one and with the most; below, at the ends and beyond. */
    private static void refusesPlaces(int call, int tray) {
        TypeCabinet x = new TypeCabinet();
        for (int i : new int[] {0, -1, 30, MAX, MIN}) {
            Call.atPlace(tray, i).get(call).isRefused(x, 1);
        }
        for (int n : new int[] {0, 1, 30}) {
            x.pull(tray, n);
            for (int i : new int[] {-1, n, n + 1, 31, MAX, MIN}) {
                Call.atPlace(tray, i).get(call).isRefused(x, 2);
            }
            if (n > 0) {
                Call.atPlace(tray, 0).get(call).isGranted(x);
                Call.atPlace(tray, n - 1).get(call).isGranted(x);
            }
        }
        x.out(tray);
        Call.atPlace(tray, 0).get(call).isRefused(x, 1);
    }

    private static void getRefuses() {
        Checks.sentence("What is in place i, as a number. 1, 2.");
        for (int tray = 0; tray < 5; tray++) {
            refusesPlaces(0, tray);
        }
    }

    private static void setDrawsWhateverIsRefused() {
        Checks.sentence("A number is DRAWN, whatever is refused then (but with 5)");
        for (int tray = 0; tray < 5; tray++) {
            TypeCabinet x = new TypeCabinet();
            for (int v = 1; v <= 9; v++) {
                x.push(v);
            }
            Call.set(tray, 0).isRefused(x, 1);
            Checks.due("OUT", Cabinets.supplyOf(x), "2 3 4 5 6 7 8 9 (8)");
            x.pull(tray, 1);
            int next = 3;
            for (int i : new int[] {1, -1, 30, MAX, MIN}) {
                Call.set(tray, i).isRefused(x, 2);
                Checks.due("no place " + i, x.left(0), next);
                next++;
            }
            for (int none : Call.NO_TRAYS) {
                Call.set(none, 0).isRefused(x, 5);
                Checks.due("no tray " + none, Cabinets.supplyOf(x), "7 8 9 (3)");
            }
            Call.set(tray, 0).isGranted(x);
            Checks.due("not refused", Cabinets.supplyOf(x), "8 9 (2)");
        }
        TypeCabinet empty = new TypeCabinet();
        Call.set(LETTERS, 0).isRefused(empty, 1);
        Checks.due("refused with none to draw", empty.supply(), 0);
    }

    private static void setInPlaceOfWhatWasThere() {
        Checks.sentence("in place of what was there: what is in it then, as a number. 1, 2.");
        int[] edges = {0, -1, 127, 128, 32768, 65536, 16777217, MAX, MIN};
        for (int tray = 0; tray < 5; tray++) {
            TypeCabinet x = Cabinets.withTrays(30);
            for (int v : edges) {
                for (int i : new int[] {0, 29}) {
                    TypeCabinet alone = Cabinets.withTrays(1);
                    int want = Checks.pushAndSet(alone, tray, 0, v);
                    Checks.due("set of " + v, Checks.pushAndSet(x, tray, i, v), want);
                    Checks.due("get behind it", x.get(tray, i), want);
                    Checks.due("beside it", x.get(tray, i == 0 ? 1 : 28), 0);
                }
            }
        }
    }

    private static void setRefuses() {
        Checks.sentence("and comes to place i as the tray has it, in place of what was there: what"
            + " is in it then, as a number. 1, 2.");
        for (int tray = 0; tray < 5; tray++) {
            refusesPlaces(1, tray);
        }
    }

    private static void addDrawsNothingIfRefused() {
        Checks.sentence("A number is DRAWN (nothing, if this is refused)");
        for (int tray = 0; tray < 5; tray++) {
            refusesPlaces(2, tray);
            TypeCabinet x = new TypeCabinet();
            x.push(5);
            x.push(6);
            Call.add(tray, 0).isRefused(x, 1);
            x.pull(tray, 1);
            for (int i : new int[] {1, -1, 30, MAX, MIN}) {
                Call.add(tray, i).isRefused(x, 2);
            }
            for (int none : Call.NO_TRAYS) {
                Call.add(none, 0).isRefused(x, 5);
            }
            Checks.due("refused", Cabinets.supplyOf(x), "5 6 (2)");
            Call.add(tray, 0).isGranted(x);
            Checks.due("not refused", Cabinets.supplyOf(x), "6 (1)");
        }
    }

    private static void adds(int tray, int there, int v, int want) {
        TypeCabinet x = Cabinets.withTrays(1);
        Checks.pushAndSet(x, tray, 0, there);
        Checks.due(there + " and " + v, Checks.pushAndAdd(x, tray, 0, v), want);
        Checks.due("get behind it", x.get(tray, 0), want);
    }

    private static void addsNumbersAsTheTrayHasThem() {
        Checks.sentence("of LETTERS, KERNS, SLUGS their sum, as the tray has it");
        adds(LETTERS, 65535, 1, 0);
        adds(LETTERS, 0, -1, 65535);
        adds(LETTERS, 65535, 65535, 65534);
        adds(LETTERS, 65535, MAX, 65534);
        adds(LETTERS, 1, MIN, 1);
        adds(KERNS, 32767, 1, -32768);
        adds(KERNS, -32768, -1, 32767);
        adds(KERNS, 32767, MAX, 32766);
        adds(KERNS, -32768, MIN, -32768);
        adds(KERNS, 5, 65536, 5);
        adds(SLUGS, 127, 1, -128);
        adds(SLUGS, -128, -1, 127);
        adds(SLUGS, 127, MAX, 126);
        adds(SLUGS, -128, MIN, -128);
        adds(SLUGS, 5, 256, 5);
    }

    private static void addsInksToTheNearest() {
        Checks.sentence("of INKS the sum of what is there and of the number as the tray has it, a"
            + " float (the nearest one, as above)");
        int ofHalves = 1 << 24;
        adds(INKS, ofHalves, 1, Checks.bits(4194304f));
        adds(INKS, ofHalves, 2, Checks.bits(4194304.5f));
        adds(INKS, ofHalves, 3, Checks.bits(4194305f));
        adds(INKS, ofHalves + 2, 1, Checks.bits(4194305f));
        adds(INKS, -ofHalves, -1, Checks.bits(-4194304f));
        adds(INKS, -ofHalves - 2, -1, Checks.bits(-4194305f));
        adds(INKS, ofHalves, -1, Checks.bits(4194303.75f));
        adds(INKS, 16777217, 16777217, Checks.bits(8388608f));
        adds(INKS, MAX, MAX, Checks.bits(1073741824f));
        adds(INKS, MAX, MIN, 0);
        adds(INKS, MIN, MAX, 0);
        adds(INKS, MIN, MIN, Checks.bits(-1073741824f));
        adds(INKS, MAX, 31, Checks.bits(536870912f));
        adds(INKS, 0, 0, 0);
    }

    private static void addsMarks() {
        Checks.sentence("a MARK becomes whether just one of both is true");
        adds(MARKS, 0, 0, 0);
        adds(MARKS, 1, 0, 1);
        adds(MARKS, 0, 1, 1);
        adds(MARKS, 1, 1, 0);
        adds(MARKS, 1, -1, 0);
        adds(MARKS, 0, MAX, 1);
        adds(MARKS, 1, MAX, 0);
        adds(MARKS, 1, MIN, 1);
        adds(MARKS, 1, 2, 1);
    }

    private static void addTellsWhatIsThen() {
        Checks.sentence("is true: what is in it then, as a number. 1, 2.");
        for (int tray = 0; tray < 5; tray++) {
            TypeCabinet x = Cabinets.withTrays(30);
            TypeCabinet alone = Cabinets.withTrays(1);
            int seven = Checks.pushAndSet(alone, tray, 0, 7);
            for (int i : new int[] {0, 29}) {
                Checks.granted(x, "to 0", Checks.pushAndAdd(x, tray, i, 7), seven);
                Checks.granted(x, "of none", x.add(tray, i), seven);
                Checks.due("beside it", x.get(tray, i == 0 ? 1 : 28), 0);
            }
        }
    }

    private static void steps(int tray, int there, int was, int then) {
        TypeCabinet x = Cabinets.withTrays(1);
        Checks.pushAndSet(x, tray, 0, there);
        Checks.granted(x, "step of " + there, x.step(tray, 0), was);
        Checks.due("get behind it", x.get(tray, 0), then);
    }

    private static void stepsNumbersAsTheTrayHasThem() {
        Checks.sentence("One more in place i: of LETTERS, KERNS, SLUGS as the tray has it");
        steps(LETTERS, 65534, 65534, 65535);
        steps(LETTERS, 65535, 65535, 0);
        steps(LETTERS, 32767, 32767, 32768);
        steps(KERNS, 32766, 32766, 32767);
        steps(KERNS, 32767, 32767, -32768);
        steps(KERNS, -1, -1, 0);
        steps(SLUGS, 126, 126, 127);
        steps(SLUGS, 127, 127, -128);
        steps(SLUGS, -1, -1, 0);
    }

    private static void stepsInksToTheNearest() {
        Checks.sentence("of INKS 1f more (the nearest float)");
        int of2s = 1 << 26;
        float[] at = {16777215f, 16777216f, 16777218f, -16777216f, -16777218f, -1f, -0.75f, 0f,
            536870912f, -536870912f};
        float[] then = {16777216f, 16777216f, 16777220f, -16777215f, -16777216f, 0f, 0.25f, 1f,
            536870912f, -536870912f};
        int[] quarters = {of2s - 4, of2s, of2s + 8, -of2s, -of2s - 8, -4, -3, 0, MAX, MIN};
        for (int n = 0; n < at.length; n++) {
            steps(INKS, quarters[n], Checks.bits(at[n]), Checks.bits(then[n]));
        }
    }

    private static void stepsMarks() {
        Checks.sentence("a MARK becomes the other one");
        steps(MARKS, 0, 0, 1);
        steps(MARKS, 1, 1, 0);
    }

    private static void stepTellsWhatWas() {
        Checks.sentence("what was in it ahead of that, as a number");
        for (int tray = 0; tray < 5; tray++) {
            TypeCabinet x = Cabinets.withTrays(30);
            x.push(9);
            for (int i : new int[] {0, 29}) {
                Checks.granted(x, "first", x.step(tray, i), 0);
                int one = x.get(tray, i);
                Checks.due("then", one, tray == INKS ? Checks.bits(1f) : 1);
                Checks.granted(x, "second", x.step(tray, i), one);
                Checks.due("beside it", x.get(tray, i == 0 ? 1 : 28), 0);
            }
            Checks.due("none is drawn", x.supply(), 1);
        }
    }

    private static void stepRefuses() {
        Checks.sentence("what was in it ahead of that, as a number. 1, 2.");
        for (int tray = 0; tray < 5; tray++) {
            refusesPlaces(3, tray);
        }
    }

    private static void poursIntoTheSameOne() {
        Checks.sentence("One goes over into another tray (or the same one)");
        for (int tray = 0; tray < 5; tray++) {
            TypeCabinet x = new TypeCabinet();
            x.pull(tray, 0);
            Checks.granted(x, "without places", x.pour(tray, tray), 0);
            x.pull(tray, 30);
            int first = Checks.pushAndSet(x, tray, 0, 65535);
            int last = Checks.pushAndSet(x, tray, 29, -32769);
            Checks.granted(x, "with the most", x.pour(tray, tray), 30);
            if (tray != INKS) {
                Checks.due("place 0", x.get(tray, 0), first);
                Checks.due("place 29", x.get(tray, 29), last);
            }
        }
        TypeCabinet x = Cabinets.withTrays(2);
        Checks.pushAndSet(x, INKS, 0, 23);
        Checks.pushAndSet(x, INKS, 1, -3);
        x.pour(INKS, INKS);
        Checks.due("5.75f is 5 quarters then", x.get(INKS, 0), Checks.bits(1.25f));
        Checks.due("-0.75f is 0f then, without a sign", x.get(INKS, 1), 0);
    }

    /** Pours one place, and tells what the other one has then. */
    private static void pours(int from, int v, int to, int want) {
        TypeCabinet x = Cabinets.withTrays(1);
        Checks.pushAndSet(x, from, 0, v);
        int kept = x.get(from, 0);
        String call = "pour(" + from + ", " + to + ") of " + v;
        Checks.granted(x, call, x.pour(from, to), 1);
        Checks.due(call + ", to", x.get(to, 0), want);
        Checks.due(call + ", from", x.get(from, 0), kept);
    }

    private static void poursAsTheOtherHasIt() {
        Checks.sentence("the WHOLE of what is in its place comes to the other one's place of that"
            + " number, as that has it");
        pours(LETTERS, 65535, KERNS, -1);
        pours(LETTERS, 32768, KERNS, -32768);
        pours(LETTERS, 65535, INKS, Checks.bits(16383.75f));
        pours(LETTERS, 65535, MARKS, 1);
        pours(LETTERS, 65534, MARKS, 0);
        pours(LETTERS, 128, SLUGS, -128);
        pours(KERNS, -1, LETTERS, 65535);
        pours(KERNS, -32768, LETTERS, 32768);
        pours(KERNS, -32768, INKS, Checks.bits(-8192f));
        pours(KERNS, -1, MARKS, 1);
        pours(KERNS, -129, SLUGS, 127);
        pours(INKS, -4, LETTERS, 65535);
        pours(INKS, -3, LETTERS, 0);
        pours(INKS, 131072, KERNS, -32768);
        pours(INKS, 7, MARKS, 1);
        pours(INKS, -7, MARKS, 1);
        pours(INKS, 512, SLUGS, -128);
        pours(MARKS, 1, LETTERS, 1);
        pours(MARKS, 1, KERNS, 1);
        pours(MARKS, 1, INKS, Checks.bits(0.25f));
        pours(MARKS, 1, SLUGS, 1);
        pours(SLUGS, -1, LETTERS, 65535);
        pours(SLUGS, -128, KERNS, -128);
        pours(SLUGS, -128, INKS, Checks.bits(-32f));
        pours(SLUGS, -1, MARKS, 1);
    }

    /** A cabinet with so many letters, 1, 2, .., and so many slugs, all of them 99. */
    private static TypeCabinet lettersAndSlugs(int letters, int slugs) {
        TypeCabinet x = new TypeCabinet();
        x.pull(LETTERS, letters);
        x.pull(SLUGS, slugs);
        for (int i = 0; i < letters; i++) {
            Checks.pushAndSet(x, LETTERS, i, i + 1);
        }
        for (int i = 0; i < slugs; i++) {
            Checks.pushAndSet(x, SLUGS, i, 99);
        }
        return x;
    }

    private static void poursAsFarAsBothHavePlaces() {
        Checks.sentence("as far as both have places: how many");
        int[][] counts = {{0, 0}, {0, 1}, {0, 30}, {1, 1}, {1, 2}, {29, 30}, {30, 30}};
        for (int[] pair : counts) {
            TypeCabinet x = lettersAndSlugs(pair[0], pair[1]);
            Checks.granted(x, "pour", x.pour(LETTERS, SLUGS), pair[0]);
            for (int i = 0; i < pair[1]; i++) {
                Checks.due("slug " + i, x.get(SLUGS, i), i < pair[0] ? i + 1 : 99);
            }
            Checks.due("letters", x.places(LETTERS), pair[0]);
            Checks.due("slugs", x.places(SLUGS), pair[1]);
        }
    }

    private static void pourRefusesOutOfEither() {
        Checks.sentence("1 (of either); and 2");
        for (int in = 0; in < 5; in++) {
            TypeCabinet x = new TypeCabinet();
            for (int other = 0; other < 5; other++) {
                Call.pour(in, other).isRefused(x, 1);
            }
            x.pull(in, 3);
            for (int out = 0; out < 5; out++) {
                if (out != in) {
                    Call.pour(in, out).isRefused(x, 1);
                    Call.pour(out, in).isRefused(x, 1);
                    Call.pour(out, out).isRefused(x, 1);
                    x.pull(out, 3);
                    x.out(out);
                    Call.pour(in, out).isRefused(x, 1);
                    Call.pour(out, in).isRefused(x, 1);
                }
            }
        }
    }

    private static void poursIntoFewer() {
        Checks.sentence("and 2, telling how many all the same, when the other one has fewer"
            + " places");
        int[][] counts = {{1, 0}, {30, 0}, {2, 1}, {30, 1}, {30, 29}};
        for (int[] pair : counts) {
            TypeCabinet x = lettersAndSlugs(pair[0], pair[1]);
            Checks.due("pour", x.pour(LETTERS, SLUGS), pair[1]);
            Checks.due("refused()", x.refused(), 2);
            for (int i = 0; i < pair[1]; i++) {
                Checks.due("slug " + i, x.get(SLUGS, i), i + 1);
            }
            for (int i = 0; i < pair[0]; i++) {
                Checks.due("letter " + i, x.get(LETTERS, i), i + 1);
            }
            Checks.due("letters", x.places(LETTERS), pair[0]);
            Checks.due("slugs", x.places(SLUGS), pair[1]);
        }
        for (int from = 0; from < 5; from++) {
            for (int to = 0; to < 5; to++) {
                if (from != to) {
                    TypeCabinet x = Cabinets.withTrays(2);
                    x.pull(to, 1);
                    Checks.due("pour(" + from + ", " + to + ")", x.pour(from, to), 1);
                    Checks.due("refused()", x.refused(), 2);
                }
            }
        }
    }

    private static void pourRefusesNoTrayOfEither() {
        Checks.sentence("5 is of either.");
        for (int none : Call.NO_TRAYS) {
            TypeCabinet x = new TypeCabinet();
            x.pull(LETTERS, 2);
            x.pull(KERNS, 1);
            for (int tray = 0; tray < 5; tray++) {
                Call.pour(none, tray).isRefused(x, 5);
                Call.pour(tray, none).isRefused(x, 5);
            }
            Call.pour(none, none).isRefused(x, 5);
        }
    }
}
