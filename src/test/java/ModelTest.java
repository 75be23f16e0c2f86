import java.util.ArrayDeque;
import java.util.ArrayList;
import java.util.Arrays;
import java.util.List;

/**
 * Long mixed runs, each call answered by the program and by a second cabinet that is written
 * straight from the document with Java's own arrays of unlike things.
 */
public final class ModelTest {
    private static final int RUNS = 2000;
    private static final int CALLS_A_RUN = 512;
    private static final int[] NUMBERS = {
        0, 1, -1, 2, 3, 127, 128, -129, 255, 32767, 32768, -32769, 65535, 65536, 16777217,
        16777219, -16777217, Integer.MAX_VALUE, Integer.MIN_VALUE
    };

    /** A row of numbers that is the same in every run of the tests. */
    private static final class Dice {
        private long state;

        Dice(long seed) {
            state = seed;
        }

        int next() {
            state = state * 6364136223846793005L + 1442695040888963407L;
            return (int) (state >>> 32);
        }

        int below(int bound) {
            return Math.floorMod(next(), bound);
        }
    }

    private static final class Model {
        final Object[] trays = new Object[5];
        final ArrayDeque<Integer> supply = new ArrayDeque<>();
        int[][] forme;
        int refused;

        int push(int v) {
            if (supply.size() == 40) {
                return -1;
            }
            supply.addLast(v);
            return supply.size();
        }

        int left(int k) {
            List<Integer> row = new ArrayList<>(supply);
            return k < 0 || k >= row.size() ? 0 : row.get(k);
        }

        int draw() {
            return supply.isEmpty() ? 0 : supply.removeFirst();
        }

        int refuse(int why) {
            refused = why;
            return -1;
        }

        int answer(int what) {
            refused = 0;
            return what;
        }

        static boolean noTray(int tray) {
            return tray < 0 || tray > 4;
        }

        static int length(Object tray) {
            return java.lang.reflect.Array.getLength(tray);
        }

        static Object made(int tray, int n) {
            return switch (tray) {
                case 0 -> new char[n];
                case 1 -> new short[n];
                case 2 -> new float[n];
                case 3 -> new boolean[n];
                default -> new byte[n];
            };
        }

        static int number(Object tray, int i) {
            if (tray instanceof float[] inks) {
                return Float.floatToIntBits(inks[i]);
            }
            return whole(tray, i);
        }

        static int whole(Object tray, int i) {
            if (tray instanceof char[] letters) {
                return letters[i];
            }
            if (tray instanceof short[] kerns) {
                return kerns[i];
            }
            if (tray instanceof float[] inks) {
                return (int) inks[i];
            }
            if (tray instanceof boolean[] marks) {
                return marks[i] ? 1 : 0;
            }
            return ((byte[]) tray)[i];
        }

        static void put(Object tray, int i, int v) {
            if (tray instanceof char[] letters) {
                letters[i] = (char) v;
            } else if (tray instanceof short[] kerns) {
                kerns[i] = (short) v;
            } else if (tray instanceof float[] inks) {
                inks[i] = v * 0.25f;
            } else if (tray instanceof boolean[] marks) {
                marks[i] = v % 2 != 0;
            } else {
                ((byte[]) tray)[i] = (byte) v;
            }
        }

        static void plus(Object tray, int i, int v) {
            if (tray instanceof char[] letters) {
                letters[i] += v;
            } else if (tray instanceof short[] kerns) {
                kerns[i] += v;
            } else if (tray instanceof float[] inks) {
                inks[i] += v * 0.25f;
            } else if (tray instanceof boolean[] marks) {
                marks[i] ^= v % 2 != 0;
            } else {
                ((byte[]) tray)[i] += v;
            }
        }

        static void oneMore(Object tray, int i) {
            if (tray instanceof char[] letters) {
                letters[i]++;
            } else if (tray instanceof short[] kerns) {
                kerns[i]++;
            } else if (tray instanceof float[] inks) {
                inks[i]++;
            } else if (tray instanceof boolean[] marks) {
                marks[i] = !marks[i];
            } else {
                ((byte[]) tray)[i]++;
            }
        }

        int pull(int tray, int n) {
            if (noTray(tray)) {
                return refuse(5);
            }
            if (n > 30) {
                return refuse(4);
            }
            if (n < 0) {
                return refuse(3);
            }
            trays[tray] = made(tray, n);
            return answer(n);
        }

        int out(int tray) {
            if (noTray(tray)) {
                refuse(5);
                return 0;
            }
            boolean was = trays[tray] != null;
            trays[tray] = null;
            return answer(was ? 1 : 0);
        }

        int places(int tray) {
            if (noTray(tray)) {
                return refuse(5);
            }
            return trays[tray] == null ? refuse(1) : answer(length(trays[tray]));
        }

        /** get 0, set 1, add 2, step 3. */
        int atPlace(int call, int tray, int i) {
            if (noTray(tray)) {
                return refuse(5);
            }
            int drawn = call == 1 ? draw() : 0;
            Object things = trays[tray];
            if (things == null) {
                return refuse(1);
            }
            if (i < 0 || i >= length(things)) {
                return refuse(2);
            }
            int before = number(things, i);
            if (call == 1) {
                put(things, i, drawn);
            } else if (call == 2) {
                plus(things, i, draw());
            } else if (call == 3) {
                oneMore(things, i);
            }
            return answer(call == 3 ? before : number(things, i));
        }

        int pour(int from, int to) {
            if (noTray(from) || noTray(to)) {
                return refuse(5);
            }
            if (trays[from] == null || trays[to] == null) {
                return refuse(1);
            }
            int i = 0;
            while (i < length(trays[from]) && i < length(trays[to])) {
                put(trays[to], i, whole(trays[from], i));
                i++;
            }
            refused = length(trays[to]) < length(trays[from]) ? 2 : 0;
            return i;
        }

        int form(int lines, int columns) {
            if (Math.max(lines, columns) > 30) {
                return refuse(4);
            }
            if (Math.min(lines, columns) < 0) {
                return refuse(3);
            }
            forme = new int[lines][columns];
            return answer(lines * columns);
        }

        int melt() {
            boolean was = forme != null;
            forme = null;
            return answer(was ? 1 : 0);
        }

        int sheet(int what) {
            if (forme == null) {
                return refuse(1);
            }
            if (what == 0) {
                return answer(forme.length);
            }
            return what != 1 ? refuse(2) : answer(forme.length == 0 ? 0 : forme[0].length);
        }

        int compose(int line, int tray) {
            if (noTray(tray)) {
                return refuse(5);
            }
            if (forme == null) {
                return refuse(1);
            }
            if (line < 0 || line >= forme.length) {
                return refuse(2);
            }
            if (trays[tray] == null) {
                return refuse(1);
            }
            int i = 0;
            while (i < length(trays[tray]) && i < forme[line].length) {
                forme[line][i] = whole(trays[tray], i);
                i++;
            }
            return answer(i);
        }

        int cell(int line, int column) {
            if (forme == null) {
                return refuse(1);
            }
            boolean there = line >= 0 && line < forme.length
                && column >= 0 && column < forme[line].length;
            return there ? answer(forme[line][column]) : refuse(2);
        }
    }

    public static void main(String[] args) {
        for (int run = 0; run < RUNS; run++) {
            mixedRun(run);
        }
        Checks.end();
    }

    private static void mixedRun(int run) {
        Dice dice = new Dice(run);
        TypeCabinet x = new TypeCabinet();
        Model model = new Model();
        // Few counts in one run: so trays and formes often fit one another, and often don't.
        int[] counts = {dice.below(31), dice.below(4), dice.below(8), 30};
        for (int n = 0; n + 1 < CALLS_A_RUN; n += 2) {
            oneCall("run " + run + ", call " + n + ": ", dice, x, model, counts);
            Checks.due("run " + run + ", call " + n + ": refused()", x.refused(), model.refused);
        }
    }

    private static int number(Dice dice) {
        return dice.below(3) == 0 ? NUMBERS[dice.below(NUMBERS.length)] : dice.next();
    }

    private static int tray(Dice dice) {
        return dice.below(40) == 0 ? (dice.below(2) == 0 ? 5 : -1) : dice.below(5);
    }

    private static int count(Dice dice, int[] counts) {
        return dice.below(20) == 0 ? dice.below(35) - 2 : counts[dice.below(counts.length)];
    }

    private static int place(Dice dice, int[] counts) {
        int bound = counts[dice.below(counts.length)];
        return dice.below(12) == 0 ? dice.below(34) - 2 : bound == 0 ? 0 : dice.below(bound);
    }

    private static void oneCall(String at, Dice dice, TypeCabinet x, Model m, int[] counts) {
        int call = dice.below(40);
        if (call < 9) {
            int v = number(dice);
            Checks.due(at + "push(" + v + ")", x.push(v), m.push(v));
        } else if (call < 10) {
            Checks.due(at + "supply()", x.supply(), m.supply.size());
        } else if (call < 12) {
            int k = dice.below(45) - 2;
            Checks.due(at + "left(" + k + ")", x.left(k), m.left(k));
        } else if (call < 30) {
            trayCall(at, call, dice, x, m, counts);
        } else {
            formeCall(at, call, dice, x, m, counts);
        }
    }

    private static void trayCall(
            String at, int call, Dice dice, TypeCabinet x, Model m, int[] counts) {
        int tray = tray(dice);
        int i = place(dice, counts);
        String where = "(" + tray + ", " + i + ")";
        if (call < 14) {
            int n = count(dice, counts);
            Checks.due(at + "pull(" + tray + ", " + n + ")", x.pull(tray, n), m.pull(tray, n));
        } else if (call < 15) {
            // Rarely, so that what stands in the trays has time to grow.
            if (dice.below(4) == 0) {
                Checks.due(at + "out(" + tray + ")", x.out(tray) ? 1 : 0, m.out(tray));
            }
        } else if (call < 16) {
            Checks.due(at + "places(" + tray + ")", x.places(tray), m.places(tray));
        } else if (call < 18) {
            Checks.due(at + "get" + where, x.get(tray, i), m.atPlace(0, tray, i));
        } else if (call < 21) {
            Checks.due(at + "set" + where, x.set(tray, i), m.atPlace(1, tray, i));
        } else if (call < 25) {
            Checks.due(at + "add" + where, x.add(tray, i), m.atPlace(2, tray, i));
        } else if (call < 28) {
            Checks.due(at + "step" + where, x.step(tray, i), m.atPlace(3, tray, i));
        } else {
            int to = tray(dice);
            Checks.due(at + "pour(" + tray + ", " + to + ")", x.pour(tray, to), m.pour(tray, to));
        }
    }

    private static void formeCall(
            String at, int call, Dice dice, TypeCabinet x, Model m, int[] counts) {
        int line = place(dice, counts);
        int column = place(dice, counts);
        int tray = tray(dice);
        if (call < 31) {
            int lines = count(dice, counts);
            int columns = count(dice, counts);
            String what = Arrays.toString(new int[] {lines, columns});
            Checks.due(at + "form" + what, x.form(lines, columns), m.form(lines, columns));
        } else if (call < 32) {
            if (dice.below(4) == 0) {
                Checks.due(at + "melt()", x.melt() ? 1 : 0, m.melt());
            }
        } else if (call < 33) {
            int what = dice.below(4) - 1;
            Checks.due(at + "sheet(" + what + ")", x.sheet(what), m.sheet(what));
        } else if (call < 36) {
            String what = "(" + line + ", " + tray + ")";
            Checks.due(at + "compose" + what, x.compose(line, tray), m.compose(line, tray));
        } else {
            String what = "(" + line + ", " + column + ")";
            Checks.due(at + "cell" + what, x.cell(line, column), m.cell(line, column));
        }
    }
}
