import java.io.IOException;
import java.lang.reflect.InvocationTargetException;
import java.lang.reflect.Method;
import java.lang.reflect.Modifier;
import java.nio.file.Files;
import java.nio.file.Path;
import java.util.List;
import java.util.Set;
import java.util.TreeSet;
import java.util.regex.Matcher;
import java.util.regex.Pattern;

/** What README.md says of an answer is what the class answers, and it leaves out no call. */
public final class ReadmeTest {
    private static final Pattern MAKING =
            Pattern.compile("LibraryDrawer drawer = new LibraryDrawer\\((\\S+)\\);");
    private static final Pattern CALL =
            Pattern.compile("drawer\\.(\\w+)\\((.*?)\\);\\s*// ([^:]*)(:.*)?");

    private static int wrong = 0;

    public static void main(String[] args) throws IOException, ReflectiveOperationException {
        List<String> lines = Files.readAllLines(Path.of("README.md"));
        Set<String> shown = runExamples(lines);
        for (String call : callsOfTheFace()) {
            if (!shown.contains(call)) {
                fail("no example calls " + call);
            }
            if (!hasTableRow(lines, call)) {
                fail("no table row tells of " + call);
            }
        }
        System.out.println(wrong == 0 ? "README.md is as due" : wrong + " things are not as due");
        if (wrong != 0) {
            System.exit(1);
        }
    }

    private static void fail(String what) {
        wrong++;
        System.out.println("README.md: " + what);
    }

    private static Set<String> callsOfTheFace() {
        Set<String> calls = new TreeSet<>();
        for (Method m : LibraryDrawer.class.getDeclaredMethods()) {
            if (Modifier.isPublic(m.getModifiers())) {
                calls.add(m.getName());
            }
        }
        return calls;
    }

    private static boolean hasTableRow(List<String> lines, String call) {
        Pattern row = Pattern.compile("\\| `(int|boolean|void) " + call + "\\(.*\\)` \\|.*");
        return lines.stream().anyMatch(line -> row.matcher(line).matches());
    }

    private static Set<String> runExamples(List<String> lines)
            throws ReflectiveOperationException {
        Set<String> shown = new TreeSet<>();
        LibraryDrawer drawer = null;
        boolean inside = false;
        for (String line : lines) {
            if (line.startsWith("```")) {
                inside = line.equals("```java");
                drawer = null;
            } else if (inside && !line.isBlank()) {
                Matcher making = MAKING.matcher(line);
                Matcher call = CALL.matcher(line);
                if (making.matches()) {
                    drawer = new LibraryDrawer(number(making.group(1)));
                } else if (drawer != null && call.matches()) {
                    runCall(drawer, line, call);
                    shown.add(call.group(1));
                } else {
                    fail("this line of an example can't be read: " + line);
                }
            }
        }
        return shown;
    }

    private static void runCall(LibraryDrawer drawer, String line, Matcher call)
            throws IllegalAccessException, InvocationTargetException {
        String[] told = call.group(2).isEmpty() ? new String[0] : call.group(2).split(", ");
        for (Method m : LibraryDrawer.class.getDeclaredMethods()) {
            if (m.getName().equals(call.group(1)) && m.getParameterCount() == told.length) {
                Object got = m.invoke(drawer, arguments(m.getParameterTypes(), told));
                boolean answers = m.getReturnType() != void.class;
                if (answers && !String.valueOf(got).equals(call.group(3).strip())) {
                    fail("the answer is " + got + " in: " + line);
                }
                return;
            }
        }
        fail("there is no such call: " + line);
    }

    private static Object[] arguments(Class<?>[] types, String[] told) {
        Object[] arguments = new Object[told.length];
        for (int i = 0; i < told.length; i++) {
            if (types[i] == boolean.class) {
                arguments[i] = told[i].equals("true");
            } else if (types[i] == long.class) {
                arguments[i] = number(told[i]);
            } else {
                arguments[i] = Math.toIntExact(number(told[i]));
            }
        }
        return arguments;
    }

    private static long number(String text) {
        if (text.startsWith("0b")) {
            return Long.parseLong(text.substring(2), 2);
        }
        return Long.parseLong(text.replace("L", ""));
    }
}
