import java.io.IOException;
import java.lang.reflect.InvocationTargetException;
import java.lang.reflect.Method;
import java.lang.reflect.Modifier;
import java.nio.charset.StandardCharsets;
import java.nio.file.Files;
import java.nio.file.Path;
import java.util.List;
import java.util.Set;
import java.util.TreeSet;
import java.util.regex.Matcher;
import java.util.regex.Pattern;

/** Looks whether README.md says what is so: its calls have the answers told there, its ERRORS are the document's. */
final class ReadmeTest {
    private static final int LOW = -1000000000;
    private static final List<String> ERRORS = List.of("BEYOND", "NONE", "STATE", "FULL", "KIND", "PARTED");
    private static final Pattern CALL = Pattern.compile("x\\.(\\w+)\\(([^)]*)\\);\\s*// (LOW - )?(-?\\d+)(?=[ :,;]|$).*");
    private static final Pattern PROMISE = Pattern.compile("`(?:int|long) (\\w+)\\([^`]*`: (.*)");
    private static final Pattern ROW = Pattern.compile("\\| (\\w+) *\\| (-\\d+) \\|[^|]*\\|([^|]*)\\|");

    private ReadmeTest() {
    }

    static void all(String readme, String document) throws IOException {
        List<String> lines = Files.readAllLines(Path.of(readme), StandardCharsets.US_ASCII);
        List<String> promises = Files.readAllLines(Path.of(document), StandardCharsets.US_ASCII);
        Due.test("README.md: its calls answer as it says", () -> callsAnswer(lines));
        Due.test("README.md: each call of the face is named", () -> callsAreNamed(String.join("\n", lines)));
        Due.test("README.md: its ERRORS are those of the document", () -> errorsAreTold(lines, promises));
        Due.test("README.md: how its tests are run", () -> Due.is(lines.contains(".ci/run") ? 1 : 0, 1));
    }

    private static void callsAnswer(List<String> lines) {
        WalkFences x = null;
        int calls = 0;
        for (String line : lines) {
            if (line.equals("WalkFences x = new WalkFences();")) {
                x = new WalkFences();
            } else if (line.startsWith("x.")) {
                answers(x, line);
                calls++;
            }
        }
        Due.is(calls >= 41 ? 1 : 0, 1);
    }

    private static void answers(WalkFences x, String line) {
        Matcher call = CALL.matcher(line);
        if (x == null || !call.matches()) {
            Due.fail("no call with its answer: " + line);
            return;
        }
        long told = Long.parseLong(call.group(4));
        long due = call.group(3) == null ? told : LOW - told;
        long got = answer(x, call.group(1), call.group(2).isEmpty() ? new String[0] : call.group(2).split(", "));
        if (got != due) {
            Due.fail(line + " but the answer is " + got);
        }
    }

    private static long answer(WalkFences x, String name, String[] given) {
        for (Method each : WalkFences.class.getMethods()) {
            Class<?>[] types = each.getParameterTypes();
            if (each.getName().equals(name) && types.length == given.length) {
                Object[] values = new Object[given.length];
                for (int i = 0; i < given.length; i++) {
                    long value = Long.decode(given[i].replace("L", ""));
                    values[i] = types[i] == long.class ? (Object) value : (Object) (int) value;
                }
                try {
                    return ((Number) each.invoke(x, values)).longValue();
                } catch (IllegalAccessException | InvocationTargetException thrown) {
                    throw new IllegalStateException(name, thrown);
                }
            }
        }
        throw new IllegalStateException("there is no call " + name);
    }

    private static Set<String> face() {
        Set<String> face = new TreeSet<>();
        for (Method each : WalkFences.class.getDeclaredMethods()) {
            if (Modifier.isPublic(each.getModifiers())) {
                face.add(each.getName());
            }
        }
        return face;
    }

    private static void callsAreNamed(String readme) {
        for (String name : face()) {
            if (!readme.contains("`" + name + "`")) {
                Due.fail("README.md does not name " + name);
            }
        }
    }

    private static void errorsAreTold(List<String> lines, List<String> promises) {
        int rows = 0;
        for (String line : lines) {
            Matcher row = ROW.matcher(line);
            if (row.matches()) {
                String error = row.group(1);
                rows++;
                Due.is(Integer.parseInt(row.group(2)), LOW - 1 - ERRORS.indexOf(error));
                Set<String> told = told(row.group(3));
                if (!told.equals(answering(error, promises))) {
                    Due.fail(error + " is answered by " + answering(error, promises) + ", README.md tells " + told);
                }
            }
        }
        Due.is(rows, ERRORS.size());
    }

    /** The calls that a row of the table names, or all but these. */
    private static Set<String> told(String words) {
        Set<String> named = new TreeSet<>();
        Matcher name = Pattern.compile("`(\\w+)`").matcher(words);
        while (name.find()) {
            named.add(name.group(1));
        }
        if (!words.startsWith(" all but ")) {
            return named;
        }
        Set<String> others = face();
        others.removeAll(named);
        return others;
    }

    /** The calls of which a promise says that they answer this ERROR. */
    private static Set<String> answering(String error, List<String> promises) {
        Set<String> calls = new TreeSet<>();
        for (String line : promises) {
            Matcher promise = PROMISE.matcher(line);
            if (promise.matches() && Pattern.compile("[.;] " + error + "(\\.|:| \\()").matcher(promise.group(2)).find()) {
                calls.add(promise.group(1));
            }
        }
        return calls;
    }
}
