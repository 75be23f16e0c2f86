/**
 * A typesetter's cabinet: five trays of unlike things that stand in it or are out, a supply of
 * numbers that are drawn, a forme of lines and columns.
 *
 * <p>All rows are made at their greatest length with the cabinet and used again, so that no call
 * makes an object.
 */
public final class TypeCabinet {
    public static final int NONE = -1;

    private static final int LETTERS = 0;
    private static final int KERNS = 1;
    private static final int MARKS = 3;
    private static final int SLUGS = 4;

    private static final int MOST_COUNT = 30;
    private static final int MOST_SUPPLY = 40;

    private static final int NOT_REFUSED = 0;
    private static final int NOT_THERE = 1;
    private static final int NO_PLACE = 2;
    private static final int BELOW_ZERO = 3;
    private static final int ABOVE_MOST = 4;
    private static final int NO_TRAY = 5;

    private final Tray[] trays;
    private final Supply numbers;
    private final Forme forme;
    private int refusal;

    public TypeCabinet() {
        trays = new Tray[] {
            new NumberTray(LETTERS),
            new NumberTray(KERNS),
            new InkTray(),
            new NumberTray(MARKS),
            new NumberTray(SLUGS)
        };
        numbers = new Supply();
        forme = new Forme();
        refusal = NOT_REFUSED;
    }

    // ---- the supply

    public int push(int v) {
        return numbers.append(v) ? numbers.count : NONE;
    }

    public int supply() {
        return numbers.count;
    }

    public int left(int k) {
        return numbers.behind(k);
    }

    public int refused() {
        return refusal;
    }

    // ---- trays

    public int pull(int tray, int n) {
        refusal = isTray(tray) ? refusalOfCount(n) : NO_TRAY;
        if (refusal != NOT_REFUSED) {
            return NONE;
        }
        trays[tray].bringIn(n);
        return n;
    }

    public boolean out(int tray) {
        refusal = isTray(tray) ? NOT_REFUSED : NO_TRAY;
        if (refusal != NOT_REFUSED) {
            return false;
        }
        boolean wasIn = trays[tray].isIn;
        trays[tray].isIn = false;
        return wasIn;
    }

    public int places(int tray) {
        refusal = refusalOfTray(tray);
        return refusal == NOT_REFUSED ? trays[tray].count : NONE;
    }

    public int get(int tray, int i) {
        refusal = refusalOfPlace(tray, i);
        return refusal == NOT_REFUSED ? trays[tray].asNumber(i) : NONE;
    }

    public int set(int tray, int i) {
        refusal = refusalOfPlace(tray, i);
        if (refusal == NO_TRAY) {
            return NONE;
        }
        // Every other refusal costs the number too, so it is drawn ahead of them.
        int drawn = numbers.draw();
        if (refusal != NOT_REFUSED) {
            return NONE;
        }
        trays[tray].lay(i, drawn);
        return trays[tray].asNumber(i);
    }

    public int add(int tray, int i) {
        refusal = refusalOfPlace(tray, i);
        if (refusal != NOT_REFUSED) {
            return NONE;
        }
        trays[tray].layMore(i, numbers.draw());
        return trays[tray].asNumber(i);
    }

    public int step(int tray, int i) {
        refusal = refusalOfPlace(tray, i);
        if (refusal != NOT_REFUSED) {
            return NONE;
        }
        int before = trays[tray].asNumber(i);
        trays[tray].layOneMore(i);
        return before;
    }

    public int pour(int from, int to) {
        refusal = refusalOfTrays(from, to);
        if (refusal != NOT_REFUSED) {
            return NONE;
        }
        Tray source = trays[from];
        Tray target = trays[to];
        int poured = Math.min(source.count, target.count);
        for (int i = 0; i < poured; i++) {
            target.lay(i, source.whole(i));
        }
        // The one refusal that follows work done: what had a place to go to has come over.
        if (target.count < source.count) {
            refusal = NO_PLACE;
        }
        return poured;
    }

    // ---- the forme

    public int form(int lines, int columns) {
        refusal = refusalOfCounts(lines, columns);
        if (refusal != NOT_REFUSED) {
            return NONE;
        }
        forme.lockUp(lines, columns);
        return lines * columns;
    }

    public boolean melt() {
        refusal = NOT_REFUSED;
        boolean wasThere = forme.isThere;
        forme.isThere = false;
        return wasThere;
    }

    public int sheet(int what) {
        refusal = refusalOfSheet(what);
        if (refusal != NOT_REFUSED) {
            return NONE;
        }
        if (what == 0) {
            return forme.lines;
        }
        // Columns are counted in a line, so without lines there are none to count.
        return forme.lines == 0 ? 0 : forme.columns;
    }

    public int compose(int line, int tray) {
        refusal = refusalOfComposing(line, tray);
        if (refusal != NOT_REFUSED) {
            return NONE;
        }
        Tray source = trays[tray];
        int composed = Math.min(forme.columns, source.count);
        for (int column = 0; column < composed; column++) {
            forme.cells[forme.indexAt(line, column)] = source.whole(column);
        }
        return composed;
    }

    public int cell(int line, int column) {
        refusal = refusalOfCell(line, column);
        return refusal == NOT_REFUSED ? forme.cells[forme.indexAt(line, column)] : NONE;
    }

    // ---- which refusal holds first

    private boolean isTray(int tray) {
        return tray >= 0 && tray < trays.length;
    }

    private int refusalOfTray(int tray) {
        if (!isTray(tray)) {
            return NO_TRAY;
        }
        return trays[tray].isIn ? NOT_REFUSED : NOT_THERE;
    }

    private int refusalOfTrays(int from, int to) {
        if (!isTray(from) || !isTray(to)) {
            return NO_TRAY;
        }
        return trays[from].isIn && trays[to].isIn ? NOT_REFUSED : NOT_THERE;
    }

    private int refusalOfPlace(int tray, int i) {
        int ofTray = refusalOfTray(tray);
        if (ofTray != NOT_REFUSED) {
            return ofTray;
        }
        return i >= 0 && i < trays[tray].count ? NOT_REFUSED : NO_PLACE;
    }

    private static int refusalOfCount(int n) {
        return refusalOfCounts(n, n);
    }

    private static int refusalOfCounts(int one, int other) {
        if (one > MOST_COUNT || other > MOST_COUNT) {
            return ABOVE_MOST;
        }
        return one < 0 || other < 0 ? BELOW_ZERO : NOT_REFUSED;
    }

    private int refusalOfSheet(int what) {
        if (!forme.isThere) {
            return NOT_THERE;
        }
        return what == 0 || what == 1 ? NOT_REFUSED : NO_PLACE;
    }

    private int refusalOfLine(int line) {
        if (!forme.isThere) {
            return NOT_THERE;
        }
        return line >= 0 && line < forme.lines ? NOT_REFUSED : NO_PLACE;
    }

    private int refusalOfCell(int line, int column) {
        int ofLine = refusalOfLine(line);
        if (ofLine != NOT_REFUSED) {
            return ofLine;
        }
        return column >= 0 && column < forme.columns ? NOT_REFUSED : NO_PLACE;
    }

    private int refusalOfComposing(int line, int tray) {
        if (!isTray(tray)) {
            return NO_TRAY;
        }
        int ofLine = refusalOfLine(line);
        return ofLine != NOT_REFUSED ? ofLine : refusalOfTray(tray);
    }

    /** The row of numbers that are drawn: a ring, so that drawing moves none of the others. */
    private static final class Supply {
        private final int[] ring = new int[MOST_SUPPLY];
        private int oldest;
        int count;

        boolean append(int v) {
            if (count >= MOST_SUPPLY) {
                return false;
            }
            ring[(oldest + count) % MOST_SUPPLY] = v;
            count++;
            return true;
        }

        int behind(int k) {
            return k >= 0 && k < count ? ring[(oldest + k) % MOST_SUPPLY] : 0;
        }

        int draw() {
            int drawn = behind(0);
            if (count > 0) {
                oldest = (oldest + 1) % MOST_SUPPLY;
                count--;
            }
            return drawn;
        }
    }

    /** Places of one kind; whoever calls has looked at the place's number. */
    private abstract static class Tray {
        boolean isIn;
        int count;

        void bringIn(int n) {
            isIn = true;
            count = n;
            for (int i = 0; i < n; i++) {
                // 0 is 0, 0f and false as the trays have it.
                lay(i, 0);
            }
        }

        abstract int asNumber(int i);

        abstract int whole(int i);

        abstract void lay(int i, int v);

        abstract void layMore(int i, int v);

        abstract void layOneMore(int i);
    }

    /**
     * Letters, kerns, marks or slugs. A mark is held as 1 or 0: the lowest bit of a sum tells
     * whether just one of both was odd, so marks add and step as the other three do.
     */
    private static final class NumberTray extends Tray {
        private final int kind;
        private final int[] held = new int[MOST_COUNT];

        NumberTray(int kind) {
            this.kind = kind;
        }

        int asNumber(int i) {
            return held[i];
        }

        int whole(int i) {
            return held[i];
        }

        void lay(int i, int v) {
            held[i] = fitted(v);
        }

        void layMore(int i, int v) {
            held[i] = fitted(held[i] + v);
        }

        void layOneMore(int i) {
            held[i] = fitted(held[i] + 1);
        }

        private int fitted(int v) {
            switch (kind) {
                case LETTERS:
                    return (char) v;
                case KERNS:
                    return (short) v;
                case SLUGS:
                    return (byte) v;
                default:
                    return v & 1;
            }
        }
    }

    private static final class InkTray extends Tray {
        private static final int FRACTION_BITS = 23;
        private static final int HIDDEN_BIT = 1 << FRACTION_BITS;
        private static final int EXPONENT_BIAS = 127;
        private static final int GREATEST_EXPONENT = 254;

        private final float[] held = new float[MOST_COUNT];

        int asNumber(int i) {
            return bitsOf(held[i]);
        }

        int whole(int i) {
            return (int) held[i];
        }

        void lay(int i, int v) {
            held[i] = inked(v);
        }

        void layMore(int i, int v) {
            held[i] = held[i] + inked(v);
        }

        void layOneMore(int i) {
            held[i] = held[i] + 1f;
        }

        private static float inked(int v) {
            return (float) v * 0.25f;
        }

        /**
         * LANGUAGE.md leaves out Float.floatToIntBits, so the bits are found by arithmetic. Every
         * ink is a multiple of 0.25 far from infinity, and 0 never has a sign: so doubling and
         * halving are exact, and neither -0f nor a subnormal comes here.
         */
        private static int bitsOf(float ink) {
            if (ink == 0f) {
                return 0;
            }
            float significand = ink < 0f ? 0f - ink : ink;
            int exponent = EXPONENT_BIAS + FRACTION_BITS;
            for (; significand < HIDDEN_BIT && exponent > 1; exponent--) {
                significand = significand * 2f;
            }
            for (; significand >= 2 * HIDDEN_BIT && exponent < GREATEST_EXPONENT; exponent++) {
                significand = significand * 0.5f;
            }
            int sign = ink < 0f ? 1 << 31 : 0;
            int fraction = (int) significand - HIDDEN_BIT;
            return sign | (exponent << FRACTION_BITS) | fraction;
        }
    }

    /** Lines and columns, laid one line behind the other in a row that has room for any forme. */
    private static final class Forme {
        final int[] cells = new int[MOST_COUNT * MOST_COUNT];
        boolean isThere;
        int lines;
        int columns;

        void lockUp(int newLines, int newColumns) {
            isThere = true;
            lines = newLines;
            columns = newColumns;
            for (int i = 0; i < newLines * newColumns; i++) {
                cells[i] = 0;
            }
        }

        int indexAt(int line, int column) {
            return line * columns + column;
        }
    }
}
