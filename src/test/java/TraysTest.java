/** Promises 6 to 13: pull, out, places, get, set, add, step, pour. */
public final class TraysTest {
    private static final int LETTERS = 0;
    private static final int KERNS = 1;
    private static final int INKS = 2;
    private static final int MARKS = 3;
    private static final int SLUGS = 4;

    private static final int MAX = Integer.MAX_VALUE;
    private static final int MIN = Integer.MIN_VALUE;
    private static final int[] NO_TRAYS = {-1, 5, MAX, MIN};

    private static final int[] EDGES = {
        0, 1, -1, 2, -2, 3, 4, 127, 128, 129, 255, 256, 257, -127, -128, -129, -256,
        32767, 32768, 32769, 65535, 65536, 65537, -32767, -32768, -32769, -65535, -65536,
        16777215, 16777216, 16777217, 16777218, 16777219, -16777217, -16777219, 33554434,
        33554435, 2147483583, 2147483584, 2147483585, MAX - 1, MAX, MIN, MIN + 1, -2147483585
    };

    public static void main(String[] args) {
        pull();
        pullRefuses();
        pullForgets();
        out();
        places();
        get();
        setFitsTheTray();
        setEdges();
        setDrawsThoughRefused();
        add();
        addOfInks();
        addDrawsNothingWhenRefused();
        step();
        stepRefuses();
        pour();
        pourOfInks();
        pourIntoFewerPlaces();
        pourRefuses();
        traysAreApart();
        Checks.end();
    }

    private static TypeCabinet withAll(int n) {
        TypeCabinet x = new TypeCabinet();
        for (int tray = 0; tray < 5; tray++) {
            x.pull(tray, n);
        }
        return x;
    }

    private static void pull() {
        for (int tray = 0; tray < 5; tray++) {
            for (int n : new int[] {0, 1, 2, 29, 30}) {
                TypeCabinet x = new TypeCabinet();
                Checks.granted(x, "6: pull(" + tray + ", " + n + ")", x.pull(tray, n), n);
                Checks.granted(x, "6: places", x.places(tray), n);
                for (int i = 0; i < n; i++) {
                    Checks.granted(x, "6: get", x.get(tray, i), 0);
                }
                Checks.refused(x, "6: get(" + n + ")", x.get(tray, n), 2);
            }
        }
    }

    private static void pullRefuses() {
        for (int tray = 0; tray < 5; tray++) {
            TypeCabinet x = new TypeCabinet();
            Checks.refused(x, "6: pull 31", x.pull(tray, 31), 4);
            Checks.refused(x, "6: pull MAX", x.pull(tray, MAX), 4);
            Checks.refused(x, "6: pull -1", x.pull(tray, -1), 3);
            Checks.refused(x, "6: pull MIN", x.pull(tray, MIN), 3);
            Checks.refused(x, "6: still OUT", x.places(tray), 1);
            x.pull(tray, 3);
            Checks.pushAndSet(x, tray, 2, 5);
            int stood = x.get(tray, 2);
            x.pull(tray, 31);
            x.pull(tray, -1);
            Checks.due("6: places stay", x.places(tray), 3);
            Checks.due("6: what it had stays", x.get(tray, 2), stood);
        }
        TypeCabinet x = new TypeCabinet();
        for (int tray : NO_TRAYS) {
            Checks.refused(x, "6: no tray", x.pull(tray, 1), 5);
            Checks.refused(x, "6: no tray, 31", x.pull(tray, 31), 5);
            Checks.refused(x, "6: no tray, -1", x.pull(tray, -1), 5);
        }
    }

    private static void pullForgets() {
        for (int tray = 0; tray < 5; tray++) {
            TypeCabinet x = new TypeCabinet();
            x.pull(tray, 4);
            for (int i = 0; i < 4; i++) {
                Checks.pushAndSet(x, tray, i, 5 + 2 * i);
            }
            x.pull(tray, 2);
            Checks.due("6: fewer", x.places(tray), 2);
            x.pull(tray, 4);
            for (int i = 0; i < 4; i++) {
                Checks.due("6: gone", x.get(tray, i), 0);
            }
        }
    }

    private static void out() {
        for (int tray = 0; tray < 5; tray++) {
            TypeCabinet x = withAll(3);
            Checks.pushAndSet(x, tray, 1, 7);
            Checks.due("7: out when IN", x.out(tray), true);
            Checks.due("7: refused()", x.refused(), 0);
            Checks.refused(x, "7: OUT then", x.places(tray), 1);
            Checks.due("7: out when OUT", x.out(tray), false);
            Checks.due("7: refused() when OUT", x.refused(), 0);
            for (int other = 0; other < 5; other++) {
                if (other != tray) {
                    Checks.due("7: others stay", x.places(other), 3);
                }
            }
            x.pull(tray, 3);
            Checks.due("7: what it had is gone", x.get(tray, 1), 0);
            x.pull(tray, 0);
            Checks.due("7: out with no places", x.out(tray), true);
        }
        TypeCabinet x = withAll(1);
        for (int tray : NO_TRAYS) {
            Checks.due("7: no tray", x.out(tray), false);
            Checks.due("7: refused()", x.refused(), 5);
        }
        Checks.due("7: all stay", x.places(4), 1);
    }

    private static void places() {
        TypeCabinet x = new TypeCabinet();
        for (int tray : NO_TRAYS) {
            Checks.refused(x, "8: no tray", x.places(tray), 5);
        }
        for (int tray = 0; tray < 5; tray++) {
            Checks.refused(x, "8: OUT", x.places(tray), 1);
            x.pull(tray, 10 + tray);
        }
        for (int tray = 0; tray < 5; tray++) {
            Checks.granted(x, "8: IN", x.places(tray), 10 + tray);
        }
    }

    private static void get() {
        TypeCabinet x = new TypeCabinet();
        for (int tray : NO_TRAYS) {
            Checks.refused(x, "9: no tray", x.get(tray, 0), 5);
        }
        for (int tray = 0; tray < 5; tray++) {
            Checks.refused(x, "9: OUT", x.get(tray, 0), 1);
            Checks.refused(x, "9: OUT and no place", x.get(tray, -1), 1);
            x.pull(tray, 2);
            Checks.pushAndSet(x, tray, 0, 3);
            Checks.pushAndSet(x, tray, 1, 8);
            for (int i : new int[] {-1, 2, 30, MAX, MIN}) {
                Checks.refused(x, "9: no place " + i, x.get(tray, i), 2);
            }
        }
        int[][] stands = {{3, 8}, {3, 8}, {Checks.bits(0.75f), Checks.bits(2f)}, {1, 0}, {3, 8}};
        for (int tray = 0; tray < 5; tray++) {
            Checks.granted(x, "9: place 0", x.get(tray, 0), stands[tray][0]);
            Checks.granted(x, "9: place 1", x.get(tray, 1), stands[tray][1]);
        }
    }

    private static int asTrayHasIt(int tray, int v) {
        switch (tray) {
            case LETTERS: return Math.floorMod(v, 65536);
            case KERNS: return Math.floorMod(v + 32768, 65536) - 32768;
            case INKS: return Checks.bits(Float.parseFloat(Integer.toString(v)) / 4f);
            case MARKS: return v % 2 == 0 ? 0 : 1;
            default: return Math.floorMod(v + 128, 256) - 128;
        }
    }

    private static void setFitsTheTray() {
        for (int tray = 0; tray < 5; tray++) {
            for (int v : EDGES) {
                TypeCabinet x = withAll(30);
                x.push(v);
                String call = "10: set(" + tray + ", 29) of " + v;
                Checks.granted(x, call, x.set(tray, 29), asTrayHasIt(tray, v));
                Checks.due("10: it stands there", x.get(tray, 29), asTrayHasIt(tray, v));
                Checks.due("10: no other", x.get(tray, 28), 0);
                Checks.due("10: drawn", x.supply(), 0);
                Checks.due("10: set of none", x.set(tray, 29), 0);
            }
        }
    }

    private static void setEdges() {
        TypeCabinet x = withAll(1);
        Checks.due("10: letter 65536", Checks.pushAndSet(x, LETTERS, 0, 65536), 0);
        Checks.due("10: letter -1", Checks.pushAndSet(x, LETTERS, 0, -1), 65535);
        Checks.due("10: kern 32768", Checks.pushAndSet(x, KERNS, 0, 32768), -32768);
        Checks.due("10: kern -32769", Checks.pushAndSet(x, KERNS, 0, -32769), 32767);
        Checks.due("10: slug 128", Checks.pushAndSet(x, SLUGS, 0, 128), -128);
        Checks.due("10: slug -129", Checks.pushAndSet(x, SLUGS, 0, -129), 127);
        Checks.due("10: mark -1", Checks.pushAndSet(x, MARKS, 0, -1), 1);
        Checks.due("10: mark MIN", Checks.pushAndSet(x, MARKS, 0, MIN), 0);
        Checks.due("10: ink 1", Checks.pushAndSet(x, INKS, 0, 1), 0x3E800000);
        Checks.due("10: ink -1", Checks.pushAndSet(x, INKS, 0, -1), 0xBE800000);
        Checks.due("10: ink 4", Checks.pushAndSet(x, INKS, 0, 4), 0x3F800000);
        Checks.due("10: ink 2^24 + 1", Checks.pushAndSet(x, INKS, 0, 16777217), 0x4A800000);
        Checks.due("10: ink 2^24 + 3", Checks.pushAndSet(x, INKS, 0, 16777219), 0x4A800002);
        Checks.due("10: ink MAX", Checks.pushAndSet(x, INKS, 0, MAX), 0x4E000000);
        Checks.due("10: ink MIN", Checks.pushAndSet(x, INKS, 0, MIN), 0xCE000000);
    }

    private static void setDrawsThoughRefused() {
        for (int tray = 0; tray < 5; tray++) {
            TypeCabinet x = new TypeCabinet();
            x.push(11);
            x.push(12);
            x.push(13);
            Checks.refused(x, "10: OUT", x.set(tray, 0), 1);
            Checks.due("10: drawn when OUT", x.left(0), 12);
            x.pull(tray, 1);
            Checks.refused(x, "10: no place", x.set(tray, 1), 2);
            Checks.due("10: drawn without a place", x.left(0), 13);
            for (int none : NO_TRAYS) {
                Checks.refused(x, "10: no tray", x.set(none, 0), 5);
                Checks.due("10: not drawn without a tray", x.supply(), 1);
            }
            Checks.refused(x, "10: place -1", x.set(tray, -1), 2);
            Checks.due("10: all drawn", x.supply(), 0);
            Checks.refused(x, "10: refused with no supply", x.set(tray, MAX), 2);
            Checks.due("10: none in supply", x.supply(), 0);
            Checks.due("10: place 0 untouched", x.get(tray, 0), 0);
        }
    }

    private static void add() {
        TypeCabinet x = withAll(2);
        Checks.pushAndSet(x, LETTERS, 1, 65535);
        x.push(2);
        Checks.granted(x, "11: letter over the top", x.add(LETTERS, 1), 1);
        Checks.due("11: drawn", x.supply(), 0);
        Checks.due("11: letter below 0", Checks.pushAndAdd(x, LETTERS, 1, -3), 65534);
        Checks.due("11: letter and MAX", Checks.pushAndAdd(x, LETTERS, 1, MAX), 65533);
        Checks.due("11: letter and MIN", Checks.pushAndAdd(x, LETTERS, 1, MIN), 65533);
        Checks.due("11: letter and none", x.add(LETTERS, 1), 65533);
        Checks.pushAndSet(x, KERNS, 1, 32767);
        Checks.due("11: kern over the top", Checks.pushAndAdd(x, KERNS, 1, 1), -32768);
        Checks.due("11: kern below", Checks.pushAndAdd(x, KERNS, 1, -1), 32767);
        Checks.due("11: kern and MAX", Checks.pushAndAdd(x, KERNS, 1, MAX), 32766);
        Checks.pushAndSet(x, SLUGS, 1, 127);
        Checks.due("11: slug over the top", Checks.pushAndAdd(x, SLUGS, 1, 1), -128);
        Checks.due("11: slug below", Checks.pushAndAdd(x, SLUGS, 1, -1), 127);
        Checks.due("11: slug and 1000", Checks.pushAndAdd(x, SLUGS, 1, 1000), 103);
        Checks.due("11: mark 0 and 2", Checks.pushAndAdd(x, MARKS, 1, 2), 0);
        Checks.due("11: mark 0 and 3", Checks.pushAndAdd(x, MARKS, 1, 3), 1);
        Checks.due("11: mark 1 and MIN", Checks.pushAndAdd(x, MARKS, 1, MIN), 1);
        Checks.due("11: mark 1 and -1", Checks.pushAndAdd(x, MARKS, 1, -1), 0);
        for (int tray = 0; tray < 5; tray++) {
            Checks.due("11: place 0 untouched", x.get(tray, 0), 0);
        }
    }

    private static void addOfInks() {
        for (int first : EDGES) {
            for (int second : EDGES) {
                TypeCabinet x = withAll(1);
                Checks.pushAndSet(x, INKS, 0, first);
                float sum = first * 0.25f + second * 0.25f;
                String call = "11: ink of " + first + " and " + second;
                Checks.due(call, Checks.pushAndAdd(x, INKS, 0, second), Checks.bits(sum));
                Checks.due("11: it stands", x.get(INKS, 0), Checks.bits(sum));
            }
        }
        TypeCabinet x = withAll(1);
        float sum = 0f;
        for (int n = 0; n < 150; n++) {
            sum += MAX * 0.25f;
            Checks.due("11: growing ink", Checks.pushAndAdd(x, INKS, 0, MAX), Checks.bits(sum));
        }
    }

    private static void addDrawsNothingWhenRefused() {
        for (int tray = 0; tray < 5; tray++) {
            TypeCabinet x = new TypeCabinet();
            x.push(9);
            Checks.refused(x, "11: OUT", x.add(tray, 0), 1);
            x.pull(tray, 2);
            for (int i : new int[] {-1, 2, MAX, MIN}) {
                Checks.refused(x, "11: no place", x.add(tray, i), 2);
            }
            for (int none : NO_TRAYS) {
                Checks.refused(x, "11: no tray", x.add(none, 0), 5);
            }
            Checks.due("11: not drawn", x.supply(), 1);
            Checks.due("11: the same next", x.left(0), 9);
        }
    }

    private static void step() {
        int[][] ahead = {
            {LETTERS, 65534, 65535, 0, 1},
            {KERNS, 32766, 32767, -32768, -32767},
            {SLUGS, 126, 127, -128, -127},
            {MARKS, 0, 1, 0, 1}
        };
        for (int[] row : ahead) {
            TypeCabinet x = withAll(2);
            x.push(row[1]);
            x.set(row[0], 1);
            x.push(77);
            for (int n = 1; n < row.length; n++) {
                Checks.granted(x, "12: step of tray " + row[0], x.step(row[0], 1), row[n]);
            }
            Checks.due("12: draws nothing", x.supply(), 1);
            Checks.due("12: place 0 untouched", x.get(row[0], 0), 0);
        }
        TypeCabinet x = withAll(2);
        for (int v : EDGES) {
            float ink = v * 0.25f;
            Checks.pushAndSet(x, INKS, 1, v);
            Checks.granted(x, "12: step of ink " + ink, x.step(INKS, 1), Checks.bits(ink));
            Checks.due("12: 1f more than " + ink, x.get(INKS, 1), Checks.bits(ink + 1f));
        }
        Checks.due("12: place 0 untouched", x.get(INKS, 0), 0);
    }

    private static void stepRefuses() {
        for (int tray = 0; tray < 5; tray++) {
            TypeCabinet x = new TypeCabinet();
            Checks.refused(x, "12: OUT", x.step(tray, 0), 1);
            x.pull(tray, 2);
            for (int i : new int[] {-1, 2, MAX, MIN}) {
                Checks.refused(x, "12: no place", x.step(tray, i), 2);
            }
            for (int none : NO_TRAYS) {
                Checks.refused(x, "12: no tray", x.step(none, 0), 5);
            }
            Checks.due("12: untouched", x.get(tray, 0), 0);
            Checks.due("12: untouched", x.get(tray, 1), 0);
        }
    }

    private static void pour() {
        for (int to = 0; to < 5; to++) {
            for (int from : new int[] {LETTERS, KERNS, MARKS, SLUGS}) {
                TypeCabinet x = new TypeCabinet();
                x.pull(from, 3);
                Checks.pushAndSet(x, from, 0, 201);
                Checks.pushAndSet(x, from, 1, -2);
                Checks.pushAndSet(x, from, 2, 40001);
                int[] had = {x.get(from, 0), x.get(from, 1), x.get(from, 2)};
                if (to != from) {
                    x.pull(to, 3);
                }
                String call = "13: pour(" + from + ", " + to + ")";
                Checks.granted(x, call, x.pour(from, to), 3);
                for (int i = 0; i < 3; i++) {
                    Checks.due(call + " place " + i, x.get(to, i), asTrayHasIt(to, had[i]));
                    Checks.due(call + " from", x.get(from, i), had[i]);
                }
            }
        }
    }

    private static void pourOfInks() {
        int[] inks = {7, -7, 3, -3, MAX, MIN, 1026, 513};
        int[] wholes = {1, -1, 0, 0, 536870912, -536870912, 256, 128};
        for (int to = 0; to < 5; to++) {
            TypeCabinet x = withAll(8);
            for (int i = 0; i < inks.length; i++) {
                Checks.pushAndSet(x, INKS, i, inks[i]);
            }
            Checks.granted(x, "13: pour(2, " + to + ")", x.pour(INKS, to), 8);
            for (int i = 0; i < inks.length; i++) {
                Checks.due("13: ink " + inks[i], x.get(to, i), asTrayHasIt(to, wholes[i]));
            }
        }
        pourOfInksBeyondInts();
    }

    private static void pourOfInksBeyondInts() {
        TypeCabinet x = withAll(2);
        for (int n = 0; n < 5; n++) {
            Checks.pushAndAdd(x, INKS, 0, MAX);
            Checks.pushAndAdd(x, INKS, 1, MIN);
        }
        x.pour(INKS, KERNS);
        Checks.due("13: above the ints", x.get(KERNS, 0), -1);
        Checks.due("13: below the ints", x.get(KERNS, 1), 0);
        x.pour(INKS, INKS);
        Checks.due("13: ink above the ints", x.get(INKS, 0), Checks.bits(536870912f));
        Checks.due("13: ink below the ints", x.get(INKS, 1), Checks.bits(-536870912f));
    }

    private static void pourIntoFewerPlaces() {
        TypeCabinet x = new TypeCabinet();
        x.pull(LETTERS, 3);
        x.pull(SLUGS, 2);
        Checks.pushAndSet(x, LETTERS, 0, 5);
        Checks.pushAndSet(x, LETTERS, 1, 6);
        Checks.pushAndSet(x, LETTERS, 2, 7);
        Checks.due("13: into fewer", x.pour(LETTERS, SLUGS), 2);
        Checks.due("13: refused()", x.refused(), 2);
        Checks.due("13: place 0 came", x.get(SLUGS, 0), 5);
        Checks.due("13: place 1 came", x.get(SLUGS, 1), 6);
        Checks.due("13: still two", x.places(SLUGS), 2);
        x.pull(SLUGS, 4);
        Checks.pushAndSet(x, SLUGS, 3, 9);
        Checks.granted(x, "13: into more", x.pour(LETTERS, SLUGS), 3);
        Checks.due("13: place 2 came", x.get(SLUGS, 2), 7);
        Checks.due("13: place 3 stays", x.get(SLUGS, 3), 9);
        x.pull(SLUGS, 0);
        Checks.due("13: into none", x.pour(LETTERS, SLUGS), 0);
        Checks.due("13: refused()", x.refused(), 2);
        Checks.granted(x, "13: of none", x.pour(SLUGS, LETTERS), 0);
        Checks.granted(x, "13: of none into itself", x.pour(SLUGS, SLUGS), 0);
    }

    private static void pourRefuses() {
        TypeCabinet x = new TypeCabinet();
        x.pull(LETTERS, 2);
        Checks.pushAndSet(x, LETTERS, 0, 8);
        Checks.refused(x, "13: other OUT", x.pour(LETTERS, KERNS), 1);
        Checks.refused(x, "13: from OUT", x.pour(KERNS, LETTERS), 1);
        Checks.refused(x, "13: both OUT", x.pour(KERNS, MARKS), 1);
        Checks.refused(x, "13: OUT into itself", x.pour(KERNS, KERNS), 1);
        for (int none : NO_TRAYS) {
            Checks.refused(x, "13: no from", x.pour(none, LETTERS), 5);
            Checks.refused(x, "13: no to", x.pour(LETTERS, none), 5);
            Checks.refused(x, "13: no from, to OUT", x.pour(none, KERNS), 5);
            Checks.refused(x, "13: from OUT, no to", x.pour(KERNS, none), 5);
            Checks.refused(x, "13: neither", x.pour(none, none), 5);
        }
        Checks.due("13: untouched", x.get(LETTERS, 0), 8);
    }

    private static void traysAreApart() {
        TypeCabinet x = withAll(30);
        for (int tray = 0; tray < 5; tray++) {
            for (int i = 0; i < 30; i++) {
                Checks.pushAndSet(x, tray, i, 31 * tray + 3 * i + 1);
            }
        }
        for (int tray = 0; tray < 5; tray++) {
            for (int i = 0; i < 30; i++) {
                int want = asTrayHasIt(tray, 31 * tray + 3 * i + 1);
                Checks.due("10: each place its own", x.get(tray, i), want);
            }
        }
    }
}
