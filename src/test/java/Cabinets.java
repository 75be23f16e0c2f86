/** Cabinets in the states that many tests begin with. */
final class Cabinets {
    static final int LETTERS = 0;
    static final int KERNS = 1;
    static final int INKS = 2;
    static final int MARKS = 3;
    static final int SLUGS = 4;

    static final int MAX = Integer.MAX_VALUE;
    static final int MIN = Integer.MIN_VALUE;

    private Cabinets() {}

    /** All trays IN with so many places. */
    static TypeCabinet withTrays(int places) {
        TypeCabinet x = new TypeCabinet();
        for (int tray = 0; tray < 5; tray++) {
            x.pull(tray, places);
        }
        return x;
    }

    /** Three places in each tray, a forme of 2 lines and 3 columns, 4 numbers in the supply. */
    static TypeCabinet filled() {
        TypeCabinet x = withTrays(3);
        for (int tray = 0; tray < 5; tray++) {
            for (int i = 0; i < 3; i++) {
                Checks.pushAndSet(x, tray, i, 17 + 10 * tray + i);
            }
        }
        x.form(2, 3);
        x.compose(0, LETTERS);
        x.compose(1, SLUGS);
        for (int v = 91; v < 95; v++) {
            x.push(v);
        }
        return x;
    }

    /** The supply has its most. */
    static TypeCabinet withFullSupply() {
        TypeCabinet x = new TypeCabinet();
        for (int n = 0; n < 40; n++) {
            x.push(1000 + n);
        }
        return x;
    }

    static String supplyOf(TypeCabinet x) {
        StringBuilder text = new StringBuilder();
        int count = x.supply();
        for (int k = 0; k < count; k++) {
            text.append(x.left(k)).append(' ');
        }
        return text.append('(').append(count).append(')').toString();
    }

    /** What stands in the trays and the forme, or that they are not there. */
    static String standing(TypeCabinet x) {
        StringBuilder text = new StringBuilder();
        for (int tray = 0; tray < 5; tray++) {
            text.append("tray ").append(tray).append(':');
            int places = x.places(tray);
            text.append(places < 0 ? " OUT" : "");
            for (int i = 0; i < places; i++) {
                text.append(' ').append(x.get(tray, i));
            }
            text.append("; ");
        }
        int lines = x.sheet(0);
        int columns = x.sheet(1);
        text.append(lines < 0 ? "no forme" : lines + " lines of " + columns + ":");
        for (int line = 0; line < lines; line++) {
            for (int column = 0; column < columns; column++) {
                text.append(' ').append(x.cell(line, column));
            }
        }
        return text.toString();
    }
}
