import java.io.File;
import java.io.IOException;
import java.lang.reflect.Method;
import java.lang.reflect.Modifier;
import java.nio.charset.StandardCharsets;
import java.nio.file.Files;
import java.nio.file.Path;
import java.util.ArrayList;
import java.util.List;
import java.util.Map;
import java.util.Set;
import java.util.TreeMap;
import java.util.TreeSet;
import java.util.regex.Matcher;
import java.util.regex.Pattern;

/** What README.md says is so: its calls, its table of refusals, its tests and how to run them. */
public final class ReadmeTest {
    private static final Path README = Path.of("README.md");
    private static final Path DOCUMENT = Path.of("../shared/DOC.md");
    private static final Path SOURCE = Path.of("src/main/java/DrumBoats.java");
    private static final Path TESTS = Path.of("src/test/java");

    private static final String NEW = "DrumBoats x = new DrumBoats();";
    private static final Pattern CALL =
            Pattern.compile("x\\.(\\w+)\\(([^()]*)\\);\\s+// (-?\\d+|[A-Z]+)(?:: .*)?");
    private static final Pattern REFUSAL =
            Pattern.compile("-10000[01]|-10[01]\\b|\\b(?:NONE|BAD|STATE|FULL|NO)\\b");

    public static void main(String[] args) throws Exception {
        List<String> readme = linesOf(README);
        Map<String, Method> face = face();
        calls(readme, face);
        refusals(readme, face);
        tests(readme);
        commands(readme);
        Check.finish("ReadmeTest");
    }

    private static List<String> linesOf(Path file) throws IOException {
        return Files.readAllLines(file, StandardCharsets.UTF_8);
    }

    private static Map<String, Method> face() {
        Map<String, Method> face = new TreeMap<>();
        for (Method method : DrumBoats.class.getDeclaredMethods()) {
            if (Modifier.isPublic(method.getModifiers())) {
                face.put(method.getName(), method);
            }
        }
        return face;
    }

    private static List<String> blocks(List<String> lines, String language) {
        List<String> inside = new ArrayList<>();
        boolean isInside = false;
        for (String line : lines) {
            if (line.startsWith("```")) {
                isInside = line.equals("```" + language);
            } else if (isInside && !line.isBlank()) {
                inside.add(line);
            }
        }
        return inside;
    }

    /** The calls of the page, one behind the other, answer what stands behind them. */
    private static void calls(List<String> readme, Map<String, Method> face) throws Exception {
        DrumBoats x = null;
        Set<String> shown = new TreeSet<>();
        for (String line : blocks(readme, "java")) {
            if (line.equals(NEW)) {
                x = new DrumBoats();
                continue;
            }
            Matcher call = CALL.matcher(line);
            boolean isCall = call.matches() && face.containsKey(call.group(1)) && x != null;
            Check.holds("README: a call of the face with its answer: " + line, isCall);
            if (isCall) {
                shown.add(call.group(1));
                Check.due("README: " + line, answer(x, face.get(call.group(1)), call.group(2)),
                        numberOf(call.group(3)));
            }
        }
        Check.holds("README shows every call: " + shown, shown.equals(face.keySet()));
    }

    private static long answer(DrumBoats x, Method method, String told) throws Exception {
        String[] words = told.isEmpty() ? new String[0] : told.split(", ");
        Class<?>[] types = method.getParameterTypes();
        Object[] given = new Object[types.length];
        Check.due("README: numbers of " + method.getName(), words.length, types.length);
        for (int i = 0; i < types.length; i++) {
            if (types[i] == long.class) {
                given[i] = Long.decode(words[i].replace("L", ""));
            } else {
                given[i] = Integer.decode(words[i]);
            }
        }
        return ((Number) method.invoke(x, given)).longValue();
    }

    private static long numberOf(String told) throws Exception {
        boolean isName = Character.isLetter(told.charAt(0));
        return isName ? ((Number) DrumBoats.class.getField(told).get(null)).longValue()
                : Long.parseLong(told);
    }

    /** The refusals of each call are those of its promise, in the same order. */
    private static void refusals(List<String> readme, Map<String, Method> face) throws IOException {
        Map<String, List<String>> promised = new TreeMap<>();
        Pattern promise = Pattern.compile("`(?:int|long) (\\w+)\\([^`]*\\)`: (.*)");
        for (String line : linesOf(DOCUMENT)) {
            Matcher m = promise.matcher(line);
            if (m.matches()) {
                promised.put(m.group(1), refusalsIn(m.group(2)));
            }
        }
        Check.holds("every call has its promise", promised.keySet().equals(face.keySet()));
        String source = Files.readString(SOURCE, StandardCharsets.UTF_8);
        Set<String> rows = new TreeSet<>();
        Pattern row = Pattern.compile("\\| `(\\w+)\\(([^`]*)\\)` \\| (.*) \\|");
        for (String line : readme) {
            Matcher m = row.matcher(line);
            if (m.matches()) {
                Check.holds("README has " + m.group(1) + " once", rows.add(m.group(1)));
                Check.holds("README: names of the numbers: " + line,
                        source.contains(signature(face.get(m.group(1)), m.group(2))));
                Check.holds("README: refusals as promised " + promised.get(m.group(1)) + ": " + line,
                        refusalsIn(m.group(3)).equals(promised.get(m.group(1))));
            }
        }
        Check.holds("README has the refusals of every call: " + rows, rows.equals(face.keySet()));
    }

    private static List<String> refusalsIn(String text) {
        List<String> refusals = new ArrayList<>();
        Matcher m = REFUSAL.matcher(text);
        while (m.find()) {
            refusals.add(m.group());
        }
        return refusals;
    }

    /** As it stands in the source; of a call that is not there what never stands there. */
    private static String signature(Method method, String names) {
        if (method == null) {
            return "no such call";
        }
        StringBuilder told = new StringBuilder("public " + method.getReturnType() + " ");
        told.append(method.getName()).append('(');
        String[] each = names.isEmpty() ? new String[0] : names.split(", ");
        Class<?>[] types = method.getParameterTypes();
        for (int i = 0; i < each.length; i++) {
            told.append(i == 0 ? "" : ", ").append(i < types.length ? types[i] : "?");
            told.append(' ').append(each[i]);
        }
        return told.append(") {").toString();
    }

    private static void tests(List<String> readme) {
        Set<String> told = new TreeSet<>();
        Pattern row = Pattern.compile("\\| `(\\w+Test)` \\| .* \\|");
        for (String line : readme) {
            Matcher m = row.matcher(line);
            if (m.matches()) {
                Check.holds("README has " + m.group(1) + " once", told.add(m.group(1)));
            }
        }
        Set<String> there = new TreeSet<>();
        String[] files = TESTS.toFile().list();
        for (String file : files == null ? new String[0] : files) {
            if (file.endsWith("Test.java")) {
                there.add(file.replace(".java", ""));
            }
        }
        Check.holds("README names all tests: " + told + " of " + there, told.equals(there));
    }

    private static void commands(List<String> readme) {
        List<String> lines = blocks(readme, "sh");
        Check.holds("README says how to run the tests", lines.contains(".ci/run"));
        Check.holds(".ci/run can be run", new File(".ci/run").canExecute());
        for (String line : lines) {
            for (String word : line.split(" ")) {
                boolean isPath = word.startsWith("src/") || word.startsWith(".ci/");
                Check.holds("README: there is " + word, !isPath || new File(word).exists());
            }
        }
    }
}
