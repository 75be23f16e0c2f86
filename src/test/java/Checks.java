import java.io.IOException;
import java.io.UncheckedIOException;
import java.nio.file.Files;
import java.nio.file.Path;

/** Counts and prints the answers that are not as due; a test ends with {@link #end()}. */
final class Checks {
    private static final int MOST_PRINTED_OF_A_SENTENCE = 20;
    private static final Path DOCUMENT = Path.of("../shared/DOC.md");

    private static String document = null;
    private static String sentence = "";
    private static int checked = 0;
    private static int wrong = 0;
    private static int printed = 0;

    private Checks() {}

    /**
     * The words of the document that the checks from here on hold the program to. They must stand
     * there word for word, so that no test outlives the sentence that it is of.
     */
    static void sentence(String words) {
        sentence = "";
        printed = 0;
        due("whether the document says '" + words + "'", document().contains(words), true);
        sentence = "'" + words + "': ";
    }

    private static String document() {
        if (document == null) {
            try {
                document = Files.readString(DOCUMENT);
            } catch (IOException unread) {
                throw new UncheckedIOException(unread);
            }
        }
        return document;
    }

    static void due(String call, long got, long want) {
        checked++;
        if (got != want) {
            tell(call + " answered " + got + ", due is " + want);
        }
    }

    static void due(String call, boolean got, boolean want) {
        checked++;
        if (got != want) {
            tell(call + " answered " + got + ", due is " + want);
        }
    }

    static void due(String call, String got, String want) {
        checked++;
        if (!want.equals(got)) {
            tell(call + " answered " + got + ", due is " + want);
        }
    }

    /** The call answered NONE and refused() tells why; asking must not change what it tells. */
    static void refused(TypeCabinet x, String call, int got, int why) {
        due(call, got, TypeCabinet.NONE);
        due("refused() behind " + call, x.refused(), why);
        due("refused() once more behind " + call, x.refused(), why);
    }

    static void granted(TypeCabinet x, String call, int got, int want) {
        due(call, got, want);
        due("refused() behind " + call, x.refused(), 0);
    }

    /** Pushes the number and sets it: what stands in the place then, as a number. */
    static int pushAndSet(TypeCabinet x, int tray, int i, int v) {
        x.push(v);
        return x.set(tray, i);
    }

    static int pushAndAdd(TypeCabinet x, int tray, int i, int v) {
        x.push(v);
        return x.add(tray, i);
    }

    static int bits(float f) {
        return Float.floatToIntBits(f);
    }

    static void end() {
        System.out.println(checked + " answers looked at, " + wrong + " not as due");
        if (wrong != 0) {
            System.exit(1);
        }
    }

    private static void tell(String what) {
        wrong++;
        printed++;
        if (printed <= MOST_PRINTED_OF_A_SENTENCE) {
            System.out.println(sentence + what);
        }
    }
}
