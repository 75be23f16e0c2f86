import java.io.IOException;
import java.lang.reflect.Constructor;
import java.lang.reflect.Field;
import java.lang.reflect.Member;
import java.lang.reflect.Method;
import java.lang.reflect.Modifier;
import java.nio.file.Files;
import java.nio.file.Path;
import java.util.Set;
import java.util.TreeSet;
import java.util.regex.Matcher;
import java.util.regex.Pattern;

/** The public face of the document, and the rules of LANGUAGE.md that can be seen in the text. */
public final class LanguageTest {
    private static final Path SOURCE = Path.of("src/main/java/TypeCabinet.java");

    private static final String FACE = String.join("\n",
        "TypeCabinet()",
        "int NONE",
        "int add(int, int)",
        "int cell(int, int)",
        "int compose(int, int)",
        "int form(int, int)",
        "int get(int, int)",
        "boolean melt()",
        "boolean out(int)",
        "int left(int)",
        "int places(int)",
        "int pour(int, int)",
        "int pull(int, int)",
        "int push(int)",
        "int refused()",
        "int set(int, int)",
        "int sheet(int)",
        "int step(int, int)",
        "int supply()");

    /** Words that no line of the program may have, each with the rule that leaves it out. */
    private static final String[][] LEFT_OUT = {
        {"2", "->"}, {"2", "::"},
        {"3", "\\bObject\\b"}, {"3", "\\bdouble\\b"},
        {"4", "\\bimport\\b"}, {"4", "\\bFloat\\b"}, {"4", "\\bDouble\\b"}, {"4", "Exact\\b"},
        {"4", "\\bjava\\."}, {"4", "@"}, {"4", "\\bSystem\\.(?!arraycopy)"},
        {"5", "\\bstatic\\s*\\{"}, {"5", "\\bstatic\\s+(?!final\\b|abstract\\b)\\w+\\s+\\w+\\s*[=;]"},
        {"6", "\\b(throw|throws|try|catch|synchronized|assert)\\b"},
        {"6", "\\b(equals|hashCode|toString)\\b"}
    };

    public static void main(String[] args) throws IOException {
        face();
        noPrivateMethodBearsAPublicName();
        classesInsideAreStatic();
        wordsLeftOut();
        Checks.end();
    }

    private static void face() {
        int modifiers = TypeCabinet.class.getModifiers();
        Checks.due("1: public", Modifier.isPublic(modifiers), true);
        Checks.due("1: final", Modifier.isFinal(modifiers), true);
        Set<String> seen = new TreeSet<>();
        for (Constructor<?> one : TypeCabinet.class.getDeclaredConstructors()) {
            addUnlessPrivate(seen, one, "TypeCabinet" + parameters(one.getParameterTypes()));
        }
        for (Field one : TypeCabinet.class.getDeclaredFields()) {
            addUnlessPrivate(seen, one, one.getType() + " " + one.getName());
        }
        for (Method one : TypeCabinet.class.getDeclaredMethods()) {
            String text = one.getReturnType() + " " + one.getName();
            addUnlessPrivate(seen, one, text + parameters(one.getParameterTypes()));
        }
        Set<String> want = new TreeSet<>(Set.of(FACE.split("\n")));
        Checks.due("1: the face", String.join("\n", seen), String.join("\n", want));
        Checks.due("1: what goes up", TypeCabinet.class.getSuperclass() == Object.class, true);
        Checks.due("1: interfaces", TypeCabinet.class.getInterfaces().length, 0);
    }

    private static void addUnlessPrivate(Set<String> seen, Member one, String text) {
        if (!Modifier.isPrivate(one.getModifiers())) {
            boolean isPublic = Modifier.isPublic(one.getModifiers());
            seen.add(isPublic ? text : "not public: " + text);
        }
    }

    private static String parameters(Class<?>[] types) {
        StringBuilder text = new StringBuilder("(");
        for (Class<?> type : types) {
            text.append(text.length() > 1 ? ", " : "").append(type.getName());
        }
        return text.append(")").toString();
    }

    private static void noPrivateMethodBearsAPublicName() {
        Set<String> names = new TreeSet<>();
        for (Method one : TypeCabinet.class.getMethods()) {
            names.add(one.getName());
        }
        for (Class<?> inside : TypeCabinet.class.getDeclaredClasses()) {
            noneNamed(names, inside);
        }
        noneNamed(names, TypeCabinet.class);
    }

    private static void noneNamed(Set<String> names, Class<?> where) {
        for (Method one : where.getDeclaredMethods()) {
            boolean twice = names.contains(one.getName()) && !Modifier.isPublic(one.getModifiers());
            Checks.due("1: " + one.getName() + " is public elsewhere", twice, false);
        }
    }

    private static void classesInsideAreStatic() {
        for (Class<?> inside : TypeCabinet.class.getDeclaredClasses()) {
            int modifiers = inside.getModifiers();
            Checks.due("2: static " + inside, Modifier.isStatic(modifiers), true);
            Checks.due("1: public " + inside, Modifier.isPublic(modifiers), false);
            Checks.due("1: protected " + inside, Modifier.isProtected(modifiers), false);
        }
        Checks.due("11: at most twelve", TypeCabinet.class.getDeclaredClasses().length <= 11, true);
    }

    private static void wordsLeftOut() throws IOException {
        String text = withoutComments(Files.readString(SOURCE));
        for (String[] rule : LEFT_OUT) {
            Matcher found = Pattern.compile(rule[1]).matcher(text);
            String what = found.find() ? found.group() : "nothing";
            Checks.due("rule " + rule[0] + ", looking for " + rule[1], what, "nothing");
        }
    }

    private static String withoutComments(String text) {
        return text.replaceAll("(?s)/\\*.*?\\*/", " ").replaceAll("//[^\n]*", " ");
    }
}
