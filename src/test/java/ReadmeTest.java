import java.io.IOException;
import java.lang.reflect.Method;
import java.lang.reflect.Modifier;
import java.nio.file.Files;
import java.nio.file.Path;
import java.util.Arrays;
import java.util.List;
import java.util.Map;
import java.util.Random;
import java.util.Set;
import java.util.TreeMap;
import java.util.TreeSet;
import java.util.regex.Matcher;
import java.util.regex.Pattern;
import java.util.stream.Stream;

/** What README.md says of the class and its tests, and which tests EDGES.md names, holds. */
public final class ReadmeTest {
    private static final List<String> FINDINGS = List.of("", "BEYOND", "NONE", "STATE", "FULL", "KIND");
    private static final int LOW = -1000000;
    private static final int RUNS = 1200;

    private ReadmeTest() {
    }

    public static void main(String[] args) throws Exception {
        String page = Files.readString(Path.of("README.md"));
        example(page);
        findings(page);
        calls(page);
        tests(page);
        commands(page);
        edges();
        Due.close("ReadmeTest");
    }

    private static Method method(String name) {
        for (Method m : PortLook.class.getDeclaredMethods()) {
            if (m.getName().equals(name) && Modifier.isPublic(m.getModifiers())) {
                return m;
            }
        }
        return null;
    }

    private static int number(String argument) {
        return argument.startsWith("'") ? argument.charAt(1) : Integer.parseInt(argument);
    }

    private static String block(String page, String kind) {
        Matcher m = Pattern.compile("(?s)```" + kind + "\n(.*?)```").matcher(page);
        return m.find() ? m.group(1) : "";
    }

    private static void example(String page) throws ReflectiveOperationException {
        PortLook x = null;
        int rows = 0;
        for (String line : block(page, "java").split("\n")) {
            if (line.equals("PortLook x = new PortLook();")) {
                x = new PortLook();
                continue;
            }
            Matcher m = Pattern.compile("^x\\.(\\w+)\\((.*?)\\); +// (-?\\d+)(:.*)?$").matcher(line);
            Due.holds("README: a call and its answer: " + line, m.find() && method(m.group(1)) != null);
            String[] of = m.group(2).isEmpty() ? new String[0] : m.group(2).split(", ");
            Object[] numbers = Arrays.stream(of).map(ReadmeTest::number).toArray();
            Due.due("README: " + line, (Integer) method(m.group(1)).invoke(x, numbers), Integer.parseInt(m.group(3)));
            rows++;
        }
        Due.holds("README: an example with calls of many kinds", rows >= 20);
    }

    private static void findings(String page) {
        for (int k = 1; k <= 5; k++) {
            String row = "| " + FINDINGS.get(k) + " | " + (LOW - k) + " | " + k + " |";
            Due.holds("README: " + row, page.contains(row));
        }
        PortLook x = new PortLook();
        x.ship(0, 0, 0);
        World.waiting(x, 16);
        int[] got = {0, x.risk(-1), x.rate(), x.lift(0), x.tell(0), x.as(0, 1)};
        for (int k = 1; k <= 5; k++) {
            Due.due("README: " + FINDINGS.get(k), got[k], LOW - k);
            Due.due("README: found of " + FINDINGS.get(k), x.found(k), 1);
        }
    }

    /** Each call has a row with its promise, the document's names and the findings that it can answer. */
    private static void calls(String page) throws Exception {
        Map<String, Set<String>> answered = answeredFindings();
        Matcher m = Pattern.compile("(?m)^\\| (\\d+) \\| `((\\w+)\\((.*?)\\))` \\| .* \\| ([A-Z, ]*)\\|$").matcher(page);
        String document = Files.readString(Path.of("../shared/DOC.md"));
        int promise = 2;
        while (m.find()) {
            String name = m.group(3);
            Due.due("README: the promise of " + name, Integer.parseInt(m.group(1)), promise);
            Due.holds("DOC.md: promise " + promise + " is " + name,
                document.contains("## Promise " + promise + ": " + name + "\n"));
            String face = m.group(4).isEmpty() ? "" : "int " + m.group(4).replace(", ", ", int ");
            Due.holds("DOC.md: " + name + "(" + face + ")", document.contains("public int " + name + "(" + face + ");"));
            List<String> listed = Stream.of(m.group(5).trim().split(", ")).filter(s -> !s.isEmpty()).toList();
            Due.holds("README: findings of " + name + " " + listed + ", answered " + answered.get(name),
                new TreeSet<>(listed).equals(answered.get(name)));
            Due.holds("README: findings of " + name + " " + listed + ", in the document's order",
                listed.equals(findingsOf(document, promise)));
            promise++;
        }
        Due.due("README: all calls", promise, 34);
    }

    /** The findings that begin a sentence of a promise, as the document has them one behind the other. */
    private static List<String> findingsOf(String document, int promise) {
        String text = document.substring(document.indexOf("## Promise " + promise + ":"));
        text = text.substring(0, text.indexOf("\n## ", 1));
        return Pattern.compile("(?<=[.;] )(BEYOND|NONE|STATE|FULL|KIND)\\b").matcher(text).results()
            .map(r -> r.group(1)).toList();
    }

    /** By drawn runs of a few kinds of calls each, so that what fills up does; and two that need a plan. */
    private static Map<String, Set<String>> answeredFindings() throws ReflectiveOperationException {
        List<Method> face = Arrays.stream(PortLook.class.getDeclaredMethods())
            .filter(m -> Modifier.isPublic(m.getModifiers())).sorted((a, b) -> a.getName().compareTo(b.getName()))
            .toList();
        Map<String, Set<String>> answered = new TreeMap<>();
        face.forEach(m -> answered.put(m.getName(), new TreeSet<>()));
        for (int seed = 0; seed < RUNS; seed++) {
            Random random = new Random(seed);
            PortLook x = new PortLook();
            x.ship(0, 0, 0);
            x.ship(20, 0, 0);
            x.call(0, 0);
            x.look(0, 0, 0);
            Method[] few = random.ints(5, 0, face.size()).mapToObj(face::get).toArray(Method[]::new);
            for (int i = 0; i < 500; i++) {
                Method m = few[random.nextInt(few.length)];
                keep(answered.get(m.getName()), (Integer) m.invoke(x, drawn(random, m.getParameterCount())));
            }
        }
        keep(answered.get("call"), afterFiftyCalls());
        keep(answered.get("tired"), afterAWeekOfRest());
        return answered;
    }

    private static void keep(Set<String> answered, int got) {
        if (got < LOW) {
            answered.add(FINDINGS.get(LOW - got));
        }
    }

    private static Object[] drawn(Random random, int n) {
        Object[] numbers = new Object[n];
        for (int i = 0; i < n; i++) {
            numbers[i] = random.nextInt(12) == 0 ? random.nextInt() : random.nextInt(3);
        }
        return numbers;
    }

    private static int afterFiftyCalls() {
        PortLook x = new PortLook();
        x.ship(0, 0, 0);
        for (int i = 0; i < 50; i++) {
            x.leave(x.call(0, 0));
        }
        return x.call(0, 0);
    }

    private static int afterAWeekOfRest() {
        PortLook x = new PortLook();
        x.ship(0, 0, 0);
        for (int i = 0; i < 7; i++) {
            x.rest(0, 16777215);
        }
        return x.tired(0, 0);
    }

    /** The table of tests names each test of the project once, and no other. */
    private static void tests(String page) throws IOException {
        Set<String> named = new TreeSet<>();
        Matcher m = Pattern.compile("(?m)^\\| (\\w+Test)( to (\\w+Test))? \\| ").matcher(page);
        while (m.find()) {
            named.add(m.group(1));
            if (m.group(3) != null) {
                Due.holds("README: a row of many is of the promises",
                    m.group(1).equals("Promise01NewTest") && m.group(3).equals("Promise33FoundTest"));
            }
        }
        Set<String> there = new TreeSet<>();
        Set<Integer> promises = new TreeSet<>();
        for (String file : filesOfTests()) {
            Matcher one = Pattern.compile("^Promise(\\d\\d)\\w+Test$").matcher(file);
            if (one.find()) {
                promises.add(Integer.parseInt(one.group(1)));
            } else if (file.endsWith("Test")) {
                there.add(file);
            } else {
                Due.holds("README: names the helper " + file, page.contains("`" + file + "`"));
            }
        }
        there.add("Promise01NewTest");
        Due.holds("README: the tests " + there + " are those that it names: " + named, there.equals(named));
        Due.due("README: a test for each promise", promises.size(), 33);
    }

    private static List<String> filesOfTests() throws IOException {
        try (Stream<Path> files = Files.list(Path.of("src/test/java"))) {
            return files.map(p -> p.getFileName().toString()).filter(n -> n.endsWith(".java"))
                .map(n -> n.substring(0, n.length() - 5)).sorted().toList();
        }
    }

    private static void commands(String page) {
        Due.holds("README: .ci/run is there and runs", Files.isExecutable(Path.of(".ci/run")));
        Matcher path = Pattern.compile("`((?:\\.\\./|src/|\\.ci/|NOTES)[\\w./]*)`").matcher(page);
        while (path.find()) {
            Due.holds("README: there is " + path.group(1), Files.exists(Path.of(path.group(1))));
        }
        Matcher one = Pattern.compile("java -cp \\S+ (\\w+)").matcher(page);
        Due.holds("README: a test alone",
            one.find() && Files.exists(Path.of("src/test/java/" + one.group(1) + ".java")));
    }

    /** Each n.method of EDGES.md is a method of the test of promise n. */
    private static void edges() throws IOException {
        Map<Integer, String> texts = new TreeMap<>();
        for (String file : filesOfTests()) {
            if (file.startsWith("Promise")) {
                texts.put(Integer.parseInt(file.substring(7, 9)),
                    Files.readString(Path.of("src/test/java/" + file + ".java")));
            }
        }
        Matcher m = Pattern.compile("\\b(\\d+)\\.([a-z]\\w+)").matcher(Files.readString(Path.of("src/test/EDGES.md")));
        int named = 0;
        while (m.find()) {
            String text = texts.getOrDefault(Integer.parseInt(m.group(1)), "");
            Due.holds("EDGES: " + m.group(), text.contains("private static void " + m.group(2) + "()")
                && text.contains("        " + m.group(2) + "();"));
            named++;
        }
        Due.holds("EDGES: names tests", named > 80);
    }
}
