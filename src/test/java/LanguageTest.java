import java.io.IOException;
import java.lang.reflect.Field;
import java.lang.reflect.Method;
import java.lang.reflect.Modifier;
import java.nio.charset.StandardCharsets;
import java.nio.file.Files;
import java.nio.file.Path;
import java.util.ArrayList;
import java.util.List;
import java.util.Set;
import java.util.TreeSet;
import java.util.regex.Matcher;
import java.util.regex.Pattern;

/** Looks whether the class keeps to what LANGUAGE.md says, as far as a text and reflection show it. */
final class LanguageTest {
    private static final String FACE = "int as(int,int)|int at(int,int)|int become(int,int)|int body(int)|int check()"
            + "|int count(int)|int cow(int)|int cowIs(int,int)|int cut(int)|int dawns(int)|int drive(int,int)"
            + "|int feed(long,int)|int fence(int,int)|int fenceIs(int,int)|int first(int,int)|int fits(int,int)"
            + "|int heads(int,int)|int image()|int judge(int)|int law(int,int,int,int)|int lay(int,int,int)|int loose(int)"
            + "|int move(int,int,int,int,int)|int odds(int)|int post(int,int)|int put(int,int,int)|int restore()"
            + "|int salts(int,int,int,int)|int seed(int)|int sets(int,int)|int sheet(int,int,int)|int tell(int)|int text(int)"
            + "|int then(int,int,int)|int told(int)|int turn(int,int)|int untell(int)|int voice(int,int,int)|int way(int,int)"
            + "|long land(int,int)";

    private LanguageTest() {
    }

    static void all(String source) throws IOException {
        String text = Files.readString(Path.of(source), StandardCharsets.US_ASCII);
        Due.test("rule 1, the face", LanguageTest::face);
        Due.test("rule 1, names", LanguageTest::names);
        Due.test("rule 2, classes inside", LanguageTest::inside);
        Due.test("rule 5, static fields", LanguageTest::statics);
        Due.test("rules 2, 4, 6, 13, words", () -> words(text));
        Due.test("rule 7, divisors", () -> divisors(text));
        Due.test("rule 11, sizes", () -> sizes(text));
        Due.test("rule 12, few objects", LanguageTest::fewObjects);
    }

    private static void face() {
        Set<String> face = new TreeSet<>();
        for (Method each : WalkFences.class.getDeclaredMethods()) {
            if (Modifier.isPublic(each.getModifiers())) {
                StringBuilder types = new StringBuilder();
                for (Class<?> type : each.getParameterTypes()) {
                    types.append(types.length() == 0 ? "" : ",").append(type);
                }
                face.add(each.getReturnType() + " " + each.getName() + "(" + types + ")");
            } else if (!Modifier.isPrivate(each.getModifiers())) {
                Due.fail(each + " is neither public nor private");
            }
        }
        if (!String.join("|", face).equals(FACE)) {
            Due.fail("the face is " + String.join("|", face));
        }
        for (Field each : WalkFences.class.getDeclaredFields()) {
            if (!Modifier.isPrivate(each.getModifiers())) {
                Due.fail(each + " is not private");
            }
        }
        int is = WalkFences.class.getModifiers();
        Due.is(Modifier.isPublic(is) && Modifier.isFinal(is) ? 1 : 0, 1);
        Due.is(WalkFences.class.getConstructors().length, 1);
    }

    private static List<Class<?>> classes() {
        List<Class<?>> all = new ArrayList<>(List.of(WalkFences.class.getDeclaredClasses()));
        all.add(WalkFences.class);
        return all;
    }

    private static void names() {
        Set<String> open = new TreeSet<>();
        for (Method each : WalkFences.class.getMethods()) {
            open.add(each.getName());
        }
        for (Class<?> type : classes()) {
            for (Method each : type.getDeclaredMethods()) {
                if (!Modifier.isPublic(each.getModifiers()) && open.contains(each.getName())) {
                    Due.fail(each + " bears the name of a public one");
                }
            }
        }
    }

    private static void inside() {
        Due.is(classes().size() <= 12 ? 1 : 0, 1);
        for (Class<?> type : WalkFences.class.getDeclaredClasses()) {
            if (!Modifier.isStatic(type.getModifiers()) || Modifier.isPublic(type.getModifiers())) {
                Due.fail(type + " is not static, or is public");
            }
        }
    }

    private static void statics() {
        for (Class<?> type : classes()) {
            int own = 0;
            for (Field each : type.getDeclaredFields()) {
                if (!Modifier.isStatic(each.getModifiers())) {
                    own++;
                } else if (!Modifier.isFinal(each.getModifiers())) {
                    Due.fail(each + " is static and not final");
                }
            }
            if (own > 20) {
                Due.fail(type + " has " + own + " fields");
            }
        }
    }

    private static String bare(String text) {
        return text.replaceAll("(?s)/\\*.*?\\*/", " ").replaceAll("//[^\n]*", " ")
                .replaceAll("\"[^\"\n]*\"", "\"\"").replaceAll("'(\\\\.|[^'\n])'", "0");
    }

    private static void words(String text) {
        String bare = bare(text);
        for (String word : new String[] {"throw", "throws", "try", "catch", "synchronized", "assert", "import", "package",
            "equals", "hashCode", "toString", "protected", "double", "float", "volatile", "native", "var", "Random",
            "Thread", "yield", "final\\s+var", "->", "::"}) {
            String edge = Character.isLetter(word.charAt(0)) ? "\\b" : "";
            if (Pattern.compile(edge + word + edge).matcher(bare).find()) {
                Due.fail("the word " + word + " stands in the class");
            }
        }
        Set<String> library = Set.of("System.arraycopy", "Math.min", "Math.max", "Long.bitCount", "Long.numberOfTrailingZeros");
        Matcher used = Pattern.compile("\\b(System|Math|Long|Integer|Arrays|String|Character)\\.\\w+").matcher(bare);
        while (used.find()) {
            if (!library.contains(used.group())) {
                Due.fail(used.group() + " is not looked for here: see rule 4");
            }
        }
        if (Pattern.compile("static\\s*\\{").matcher(bare).find()) {
            Due.fail("a static initialiser stands in the class");
        }
    }

    /** A divisor is a number, a constant (in capitals), or has been looked at on its line or the two ahead of it. */
    private static void divisors(String text) {
        String[] lines = bare(text).split("\n");
        for (int i = 0; i < lines.length; i++) {
            Matcher divided = Pattern.compile("[/%]=? *(\\([^)]*\\)|[\\w.]+)").matcher(lines[i]);
            while (divided.find()) {
                String by = divided.group(1);
                String ahead = String.join(" ", List.of(lines).subList(Math.max(0, i - 2), i))
                        + lines[i].substring(0, divided.start());
                boolean looked = Pattern.compile("\\b" + Pattern.quote(by) + " (==|!=|>|<=) 0\\b").matcher(ahead).find();
                if (!looked && !by.matches("[1-9]\\d*|(\\w+\\.)?[A-Z_]+")) {
                    Due.fail("line of " + lines[i].trim() + ": the divisor " + by + " is not looked at");
                }
            }
        }
    }

    private static void sizes(String text) {
        Matcher begins = Pattern.compile("^( +)(?!return|new|else)[\\w\\[\\]<> ]+\\([^;{}()]*\\) \\{$", Pattern.MULTILINE).matcher(text);
        int methods = 0;
        while (begins.find()) {
            methods++;
            String end = "\n" + begins.group(1) + "}\n";
            int close = text.indexOf(end, begins.end());
            long lines = text.substring(begins.start(), Math.max(close, begins.end())).lines().count();
            if (lines > 60) {
                Due.fail(begins.group() + " has " + lines + " lines");
            }
        }
        Due.is(methods > 60 ? 1 : 0, 1);
        for (Class<?> type : classes()) {
            for (Method each : type.getDeclaredMethods()) {
                if (each.getParameterCount() > 7) {
                    Due.fail(each + " takes more than seven");
                }
            }
        }
    }

    /** Makes no object in any call: what the constructor makes is all. */
    private static void fewObjects() {
        com.sun.management.ThreadMXBean threads =
                (com.sun.management.ThreadMXBean) java.lang.management.ManagementFactory.getThreadMXBean();
        busy(new WalkFences());
        WalkFences x = new WalkFences();
        long ahead = threads.getCurrentThreadAllocatedBytes();
        busy(x);
        long made = threads.getCurrentThreadAllocatedBytes() - ahead;
        if (made > 4096) {
            Due.fail("the calls made objects of " + made + " bytes");
        }
    }

    private static void busy(WalkFences x) {
        for (int i = 0; i < 4; i++) {
            x.fence(10 * i, i);
            x.post(i, 18 + i);
            x.post(i, 25 + i);
            x.post(i, 27 + i);
            x.post(i, 34 + i);
            x.cow(20 + i);
        }
        x.feed(0x382A612B312D6261L, 8);
        x.text(0);
        x.feed(0x392B7028L, 4);
        x.text(0);
        x.feed(0x2B63L, 1);
        x.text(1);
        for (int i = 0; i < 20; i++) {
            x.dawns(3);
            x.loose(2);
            x.image();
            x.then(i % 4, 60, 1);
            x.first(i, 0);
            x.salts(i % 4, 9 + i, 6, 0);
            x.way(i % 4, 63);
            x.odds(0);
            x.sheet(0, 8, 4);
            x.put(0, 1, i);
            x.fits(0, 0);
            x.judge(0);
            x.move(0, 0, 0, 1, 3);
            x.voice(i % 4, i % 3, i);
            x.tell(i);
            x.check();
            x.restore();
        }
    }
}
