import java.io.IOException;
import java.lang.reflect.Field;
import java.lang.reflect.Method;
import java.lang.reflect.Modifier;
import java.nio.file.Files;
import java.nio.file.Path;
import java.util.ArrayList;
import java.util.List;
import java.util.Set;
import java.util.TreeMap;
import java.util.TreeSet;
import java.util.regex.Matcher;
import java.util.regex.Pattern;

/** README.md: its example answers as it says, and its tables have each call and each constant of the class. */
public final class ReadmeTest {
    private static final Checks CHECKS = new Checks();
    private static final Pattern EXAMPLE = Pattern.compile("clans\\.(\\w+)\\((.*)\\); +// (-?[0-9.]+):.*");
    private static final Pattern CALL_ROW = Pattern.compile("\\| `(\\w+)\\((.*?)\\)` \\| .* \\|");
    private static final Pattern CONSTANT_ROW = Pattern.compile("\\| `(\\w+)` \\| (-?\\d+) \\| .* \\|");
    private static final Pattern NAME_OF_A_CLASS = Pattern.compile("`([A-Z]\\w*)`");

    public static void main(String[] args) throws IOException, ReflectiveOperationException {
        List<String> lines = Files.readAllLines(Path.of(System.getProperty("project.readme")));
        example(lines);
        calls(lines);
        constants(lines);
        files(lines);
        classesInside(lines);
        CHECKS.end();
    }

    private static void example(List<String> lines) throws ReflectiveOperationException {
        FenceHandshakes clans = new FenceHandshakes();
        int found = 0;
        for (String line : lines) {
            if (!line.startsWith("clans.")) {
                continue;
            }
            found++;
            Matcher call = EXAMPLE.matcher(line);
            if (call.matches()) {
                Object got = answerOf(clans, call.group(1), call.group(2));
                CHECKS.dueTrue(line + " answered " + got, String.valueOf(got).equals(call.group(3)));
            } else {
                CHECKS.dueTrue("can be read: " + line, false);
            }
        }
        CHECKS.dueTrue("the example is found", found > 10);
    }

    private static Object answerOf(FenceHandshakes clans, String name, String arguments)
            throws ReflectiveOperationException {
        List<Object> values = new ArrayList<>();
        for (String argument : arguments.isEmpty() ? new String[0] : arguments.split(", ")) {
            values.add(valueOf(argument));
        }
        for (Method method : FenceHandshakes.class.getMethods()) {
            if (method.getName().equals(name)) {
                return method.invoke(clans, values.toArray());
            }
        }
        return "no call of this name";
    }

    private static Object valueOf(String argument) {
        if (argument.equals("true") || argument.equals("false")) {
            return Boolean.valueOf(argument);
        }
        return argument.startsWith("'") ? (int) argument.charAt(1) : Integer.parseInt(argument);
    }

    private static void calls(List<String> lines) {
        TreeMap<String, Integer> told = new TreeMap<>();
        for (String line : lines) {
            Matcher row = CALL_ROW.matcher(line);
            if (row.matches()) {
                told.put(row.group(1), row.group(2).isEmpty() ? 0 : row.group(2).split(", ").length);
            }
        }
        TreeMap<String, Integer> due = new TreeMap<>();
        for (Method method : FenceHandshakes.class.getDeclaredMethods()) {
            if (Modifier.isPublic(method.getModifiers())) {
                due.put(method.getName(), method.getParameterCount());
            }
        }
        CHECKS.dueTrue("the calls and their numbers of arguments: " + told, told.equals(due));
    }

    private static void constants(List<String> lines) throws ReflectiveOperationException {
        TreeMap<String, Integer> told = new TreeMap<>();
        for (String line : lines) {
            Matcher row = CONSTANT_ROW.matcher(line);
            if (row.matches()) {
                told.put(row.group(1), Integer.valueOf(row.group(2)));
            }
        }
        TreeMap<String, Integer> due = new TreeMap<>();
        for (Field field : FenceHandshakes.class.getFields()) {
            due.put(field.getName(), field.getInt(null));
        }
        CHECKS.dueTrue("the constants and their values: " + told, told.equals(due));
    }

    private static void files(List<String> lines) {
        Set<String> told = namesUnder("## How to run its tests", lines);
        for (String name : told) {
            Path file = Path.of(System.getProperty("project.tests"), name + ".java");
            CHECKS.dueTrue(file + " is there", Files.exists(file));
        }
        CHECKS.dueTrue("the files are found", told.size() > 5);
    }

    private static void classesInside(List<String> lines) {
        Set<String> told = namesUnder("## How it is built", lines);
        Set<String> due = new TreeSet<>();
        for (Class<?> inside : FenceHandshakes.class.getDeclaredClasses()) {
            due.add(inside.getSimpleName());
        }
        CHECKS.dueTrue("the classes inside: " + told, told.equals(due));
    }

    /** The names of classes, in signs of code, from this heading to the next one. */
    private static Set<String> namesUnder(String heading, List<String> lines) {
        Set<String> names = new TreeSet<>();
        boolean isUnder = false;
        for (String line : lines) {
            isUnder = line.startsWith("#") ? line.equals(heading) : isUnder;
            Matcher name = NAME_OF_A_CLASS.matcher(line);
            while (isUnder && name.find()) {
                names.add(name.group(1));
            }
        }
        return names;
    }
}
