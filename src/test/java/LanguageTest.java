import java.io.IOException;
import java.lang.reflect.Constructor;
import java.lang.reflect.Field;
import java.lang.reflect.Method;
import java.lang.reflect.Modifier;
import java.nio.file.Files;
import java.nio.file.Path;
import java.util.Arrays;
import java.util.List;
import java.util.TreeSet;
import java.util.regex.Matcher;
import java.util.regex.Pattern;

/** The public face, and those rules of LANGUAGE.md that can be seen from the class and its source. */
public final class LanguageTest {
    private static final Checks CHECKS = new Checks();

    private static final String[] FACE = {
        "int append(int)", "int bestLink()", "int clearText()", "int count(int)", "int doneIn()", "int fault()",
        "int hindered()", "int isLinked(int, int)", "int link(int, int, boolean)", "double mean()",
        "int move(boolean, int, int)", "int pair(int, int, int)", "int partner(boolean, int)",
        "int person(boolean, int, int)", "int planned(int, int)", "int quarrel(int, int, int)", "int read()",
        "int reconcile(int, int)", "int restore()", "int round()", "int save()", "int undo()",
        "int wish(int, int)", "int withdraw(int, int)"};

    private static final String[] FORBIDDEN = {"->", "::", "try", "catch", "throw", "synchronized", "assert",
        "instanceof", "static \\{", "System\\.(?!arraycopy)", "Exact\\(", "@", "var ", "import (?!java\\.util\\.Arrays;)",
        "\" *\\+", "\\+ *\"", "equals", "hashCode", "toString", "while \\(true\\)", "for \\(;", "package "};

    public static void main(String[] args) throws IOException {
        face();
        hiddenMembers();
        String source = Files.readString(Path.of(System.getProperty("project.source")));
        forbiddenWords(source);
        objectsOnlyWithTheObject(source);
        lengthsOfMethods(source);
        CHECKS.end();
    }

    private static void face() {
        Class<?> made = FenceHandshakes.class;
        CHECKS.dueTrue("public and final", Modifier.isPublic(made.getModifiers()) && Modifier.isFinal(made.getModifiers()));
        TreeSet<String> found = new TreeSet<>();
        for (Method m : made.getDeclaredMethods()) {
            if (!Modifier.isPrivate(m.getModifiers())) {
                CHECKS.due(m + ": modifiers", m.getModifiers(), Modifier.PUBLIC);
                String types = Arrays.toString(m.getParameterTypes());
                found.add(m.getReturnType() + " " + m.getName() + "(" + types.substring(1, types.length() - 1) + ")");
            }
        }
        CHECKS.dueTrue("the methods are those of the document: " + found, found.equals(new TreeSet<>(List.of(FACE))));
        Constructor<?>[] constructors = made.getDeclaredConstructors();
        CHECKS.due("constructors", constructors.length, 1);
        CHECKS.due("its modifiers", constructors[0].getModifiers(), Modifier.PUBLIC);
        CHECKS.due("its parameters", constructors[0].getParameterCount(), 0);
    }

    private static void hiddenMembers() {
        TreeSet<String> open = new TreeSet<>();
        for (Field f : FenceHandshakes.class.getDeclaredFields()) {
            if (!Modifier.isPrivate(f.getModifiers())) {
                open.add(f.getName());
            }
            CHECKS.dueTrue(f + " is no static variable",
                !Modifier.isStatic(f.getModifiers()) || Modifier.isFinal(f.getModifiers()));
        }
        CHECKS.dueTrue("the constants are those of the document: " + open,
            open.equals(new TreeSet<>(List.of("NO_SUCH", "BAD_VALUE", "TOO_MANY", "NOT_POSSIBLE", "NONE"))));
        TreeSet<String> names = new TreeSet<>();
        for (String f : FACE) {
            names.add(f.substring(f.indexOf(' ') + 1, f.indexOf('(')));
        }
        for (Class<?> inside : FenceHandshakes.class.getDeclaredClasses()) {
            CHECKS.dueTrue(inside + " is static and hidden", Modifier.isStatic(inside.getModifiers())
                && !Modifier.isPublic(inside.getModifiers()) && !Modifier.isProtected(inside.getModifiers()));
            for (Method m : inside.getDeclaredMethods()) {
                CHECKS.dueTrue(m + " bears no name of the face", !names.contains(m.getName()));
            }
        }
        CHECKS.dueTrue("at most twelve classes", FenceHandshakes.class.getDeclaredClasses().length < 12);
    }

    private static String withoutComments(String source) {
        return source.replaceAll("(?s)/\\*.*?\\*/", "").replaceAll("//[^\n]*", "");
    }

    private static void forbiddenWords(String source) {
        String code = withoutComments(source);
        for (String word : FORBIDDEN) {
            String whole = word.matches("[a-zA-Z]+") ? "\\b" + word + "\\b" : word;
            Matcher found = Pattern.compile(whole).matcher(code);
            CHECKS.dueTrue("the source is without " + word, !found.find());
        }
        CHECKS.dueTrue("signs 1 to 127", source.chars().allMatch(c -> c > 0 && c < 128));
    }

    /** All calls of a run share one room, so that no call makes anything. */
    private static void objectsOnlyWithTheObject(String source) {
        for (String line : withoutComments(source).split("\n")) {
            if (line.matches(".*\\bnew\\b.*")) {
                CHECKS.dueTrue("made with the object: " + line, line.matches(" +private final [^(]*= new .*;"));
            }
        }
    }

    private static void lengthsOfMethods(String source) {
        String[] lines = source.split("\n");
        int methods = 0;
        for (int head = 0; head < lines.length; head++) {
            if (!lines[head].matches(" {4,8}[a-zA-Z][^=;]*\\(.*\\) \\{")) {
                continue;
            }
            String end = lines[head].replaceAll("[^ ].*", "") + "}";
            int at = head;
            while (at < lines.length - 1 && !lines[at].equals(end)) {
                at++;
            }
            methods++;
            CHECKS.dueTrue("at most sixty lines: " + lines[head], at - head < 60);
        }
        CHECKS.dueTrue("the methods are found", methods > 60);
    }
}
