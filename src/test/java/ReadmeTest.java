import java.io.IOException;
import java.lang.reflect.Method;
import java.lang.reflect.Modifier;
import java.net.URL;
import java.net.URLClassLoader;
import java.nio.file.Files;
import java.nio.file.Path;
import java.util.ArrayList;
import java.util.LinkedHashMap;
import java.util.List;
import java.util.Map;
import java.util.Random;
import java.util.Set;
import java.util.TreeSet;
import java.util.regex.Matcher;
import java.util.regex.Pattern;
import java.util.stream.Stream;
import javax.tools.ToolProvider;

/** What README.md says of the class: its program's answers, its calls, and what refuses them. */
public final class ReadmeTest {
    private static final Path README = Path.of("README.md");
    private static final Path DOC = Path.of("../shared/DOC.md");
    private static final Pattern ANSWERED =
            Pattern.compile("( +)(int (\\w+) = )?((?:yard\\.\\w+|text)\\(.*\\));  // (-?\\d+|[A-Z]+)\\b.*");
    private static final Pattern CALL = Pattern.compile("\\| `(\\w+)\\(([^)]*)\\)` \\| .+ \\| ([^|]+) \\|");
    private static final Pattern CONSTANT = Pattern.compile("\\| `DustYards\\.([A-Z]+)` \\| (-\\d+) \\| .*");
    private static final Map<Long, String> REFUSALS = Map.of(-1L, "NONE", -2L, "BAD", -3L, "STATE", -4L, "FULL",
            DustYards.NO, "NO", -11L, "-11", -12L, "-12", -13L, "-13", -14L, "-14");
    private static final int[] NUMBERS = {Integer.MIN_VALUE, -2, -1, 0, 1, 2, 3, 4, 5, 6, 7, 11, 12, 19, 20, 39, 40,
        41, 99, 399, 400, 1000, 9999, 10000, 99999, 100000, Integer.MAX_VALUE};
    private static final int ASKED_OF_ONE = 200, ASKED = 12000;

    private final List<String> lines;
    private final Map<String, Integer> numbersOf = new LinkedHashMap<>();

    private ReadmeTest() throws IOException {
        lines = Files.readAllLines(README);
    }

    public static void main(String[] args) throws Exception {
        ReadmeTest test = new ReadmeTest();
        test.program();
        test.calls();
        test.refusals();
        test.constants();
        test.namedFiles();
        Due.end();
    }

    private static void is(String what, boolean is) {
        Due.is("README: " + what, is ? 1 : 0, 1);
    }

    private List<String> javaLines() {
        List<String> java = new ArrayList<>();
        boolean isJava = false;
        for (String line : lines) {
            if (line.startsWith("```")) {
                isJava = line.equals("```java");
            } else if (isJava) {
                java.add(line);
            }
        }
        return java;
    }

    private static long valueOf(String answer) throws ReflectiveOperationException {
        boolean isNumber = answer.matches("-?\\d+");
        return isNumber ? Long.parseLong(answer) : DustYards.class.getField(answer).getLong(null);
    }

    /** The program as it stands there, but that it keeps its answers; it is compiled and run. */
    private void program() throws Exception {
        List<String> source = new ArrayList<>();
        List<String> asked = new ArrayList<>();
        List<Long> due = new ArrayList<>();
        for (String line : javaLines()) {
            Matcher m = ANSWERED.matcher(line);
            if (!m.matches()) {
                source.add(line.replace("class Yours {",
                        "class Yours { public static final java.util.List<Long> GOT = new java.util.ArrayList<>();"));
                continue;
            }
            boolean isNamed = m.group(2) != null;
            source.add(isNamed ? m.group(2) + m.group(4) + ";" : "");
            source.add("GOT.add((long) " + (isNamed ? m.group(3) : m.group(4)) + ");");
            asked.add(m.group(4));
            due.add(valueOf(m.group(5)));
        }
        List<?> got = run(source);
        is("the program has calls and answers", asked.size() > 15 && got.size() == asked.size());
        for (int i = 0; i < asked.size(); i++) {
            Due.is("README: " + asked.get(i), (Long) got.get(i), due.get(i));
        }
    }

    private static List<?> run(List<String> source) throws Exception {
        Path folder = Files.createTempDirectory("readme");
        Path file = folder.resolve("Yours.java");
        Files.write(file, source);
        int compiled = ToolProvider.getSystemJavaCompiler().run(null, null, null,
                "-cp", System.getProperty("java.class.path"), "-d", folder.toString(), file.toString());
        is("the program compiles", compiled == 0);
        try (URLClassLoader loader = new URLClassLoader(new URL[] {folder.toUri().toURL()})) {
            Class<?> yours = loader.loadClass("Yours");
            yours.getMethod("main", String[].class).invoke(null, (Object) new String[0]);
            return (List<?>) yours.getField("GOT").get(null);
        } finally {
            Files.delete(folder.resolve("Yours.class"));
            Files.delete(file);
            Files.delete(folder);
        }
    }

    /** Each call of the document's face stands there once, with its numbers by their names. */
    private void calls() throws IOException {
        Set<String> face = new TreeSet<>();
        for (String line : Files.readAllLines(DOC)) {
            Matcher m = Pattern.compile(" +public (?:int|long) (\\w+)\\(([^)]*)\\);").matcher(line);
            if (m.matches()) {
                face.add(m.group(1) + "(" + m.group(2).replaceAll("(int|long) ", "") + ")");
            }
        }
        Set<String> told = new TreeSet<>();
        for (String line : lines) {
            Matcher m = CALL.matcher(line);
            if (m.matches()) {
                is(m.group(1) + " stands there once", told.add(m.group(1) + "(" + m.group(2) + ")"));
                numbersOf.put(m.group(1), m.group(2).isEmpty() ? 0 : m.group(2).split(", ").length);
            }
        }
        is("all calls of the face, and no other", told.equals(face) && told.size() == 37);
        List<Method> all = Stream.of(DustYards.class.getDeclaredMethods())
                .filter(m -> Modifier.isPublic(m.getModifiers())).toList();
        Set<String> longs = Set.of("says", "owed", "finds", "bid", "parted");
        for (Method m : all) {
            is("how many numbers " + m.getName() + " has", numbersOf.getOrDefault(m.getName(), -1) == m.getParameterCount());
            is("whether " + m.getName() + " answers a long",
                    m.getReturnType() == (longs.contains(m.getName()) ? long.class : int.class));
        }
        Due.is("README: calls of the class", all.size(), numbersOf.size());
    }

    private void refusals() {
        for (String line : lines) {
            Matcher m = CALL.matcher(line);
            if (m.matches()) {
                Set<String> told = new TreeSet<>(List.of(m.group(3).split(", ")));
                Set<String> seen = seenOf(m.group(1));
                is(m.group(1) + " is refused by " + told + ", seen were " + seen, told.equals(seen));
            }
        }
    }

    /** By which answers a call was refused in yards that have nothing, something and all they can have. */
    private Set<String> seenOf(String call) {
        Set<String> seen = new TreeSet<>();
        for (Yards yards : Yards.values()) {
            Random random = new Random(38);
            Yard x = yards.make();
            for (int i = 0; i < ASKED; i++) {
                if (i % ASKED_OF_ONE == 0) {
                    x = yards.make();
                }
                int[] n = new int[numbersOf.get(call)];
                for (int k = 0; k < n.length; k++) {
                    n[k] = NUMBERS[random.nextInt(NUMBERS.length)];
                }
                long answer = call.equals("feed") ? x.feed(n[0], n[1]) : x.ask(call, n);
                if (REFUSALS.containsKey(answer) && !isNoRefusal(call, answer)) {
                    seen.add(REFUSALS.get(answer));
                } else if (call.equals("text") && answer <= -100) {
                    seen.add("FAULT");
                }
            }
        }
        return seen;
    }

    /** says and owed may come to a number that refuses elsewhere. */
    private static boolean isNoRefusal(String call, long answer) {
        return (call.equals("says") || call.equals("owed")) && answer != DustYards.NO;
    }

    private void constants() throws ReflectiveOperationException {
        int told = 0;
        for (String line : lines) {
            Matcher m = CONSTANT.matcher(line);
            if (m.matches()) {
                told++;
                Due.is("README: " + m.group(1), valueOf(m.group(1)), Long.parseLong(m.group(2)));
            }
        }
        Due.is("README: constants", told, 5);
    }

    private void namedFiles() {
        String all = String.join("\n", lines);
        for (String name : List.of("src/main/java/DustYards.java", "../shared/DOC.md", "../shared/LANGUAGE.md",
                ".ci/run", "src/test/java", "../shared/tests", "NOTES.md")) {
            is(name + " is named, and is there", all.contains(name) && Files.exists(Path.of(name)));
        }
        is("a test by itself", all.contains("java -cp out CartsTest")
                && Files.exists(Path.of("src/test/java/CartsTest.java")));
    }
}
