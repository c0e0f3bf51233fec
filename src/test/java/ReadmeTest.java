import java.io.IOException;
import java.lang.reflect.Method;
import java.net.URL;
import java.net.URLClassLoader;
import java.nio.file.Files;
import java.nio.file.Path;
import java.util.ArrayList;
import java.util.Comparator;
import java.util.HashMap;
import java.util.List;
import java.util.Map;
import java.util.Set;
import java.util.TreeSet;
import java.util.regex.Matcher;
import java.util.regex.Pattern;
import java.util.stream.Stream;
import javax.tools.JavaCompiler;
import javax.tools.ToolProvider;

/** README.md and BOUNDS.md say what is so: the example compiles and answers as it tells, each test named is there. */
public final class ReadmeTest {
    private static final Pattern TOLD = Pattern.compile("int (\\w+) = (x\\..*);\\s*// (-?\\d+)\\b.*");
    private static final Pattern ASKED = Pattern.compile("\\bx\\.\\w+\\(");
    private static final int FEWEST_TOLD = 25;

    public static void main(String[] args) throws Exception {
        Path root = Path.of(args.length > 0 ? args[0] : "src/main/java/SunHouses.java").toAbsolutePath();
        for (int up = 0; up < 4; up++) {
            root = root.getParent();
        }
        String readme = Files.readString(root.resolve("README.md"));
        example(block(readme));
        answers(readme);
        testsAreNamed(readme, root.resolve("src/test/java"));
        methodsAreThere(Files.readString(root.resolve("BOUNDS.md")));
        Due.end();
    }

    /** The lines of the page's one Java example. */
    private static List<String> block(String readme) {
        List<String> lines = new ArrayList<>();
        boolean inside = false;
        int blocks = 0;
        for (String line : readme.split("\n")) {
            if (line.startsWith("```")) {
                inside = line.equals("```java");
                blocks += inside ? 1 : 0;
            } else if (inside) {
                lines.add(line);
            }
        }
        Due.is("examples in README.md", blocks, 1);
        return lines;
    }

    private static void example(List<String> lines) throws Exception {
        StringBuilder source = new StringBuilder("public final class Example {\n");
        source.append("    public static void run(java.util.Map<String, Integer> answers) {\n");
        List<String> names = new ArrayList<>();
        List<Integer> due = new ArrayList<>();
        for (String line : lines) {
            source.append(line).append('\n');
            Matcher m = TOLD.matcher(line);
            if (m.matches()) {
                source.append("answers.put(\"").append(m.group(1)).append("\", ").append(m.group(1)).append(");\n");
                names.add(m.group(1));
                due.add(Integer.valueOf(m.group(3)));
            } else {
                Due.isTrue("a call that tells no answer: " + line,
                        !ASKED.matcher(line).find() || line.contains("x.feed("));
            }
        }
        source.append("    }\n}\n");
        Due.isTrue("the example tells answers", names.size() >= FEWEST_TOLD);
        Map<String, Integer> answers = answersOf(source.toString());
        for (int i = 0; i < names.size(); i++) {
            Due.is("README.md: " + names.get(i), answers.getOrDefault(names.get(i), Integer.MIN_VALUE), due.get(i));
        }
    }

    /** Compiles a class Example and runs it. */
    private static Map<String, Integer> answersOf(String source) throws Exception {
        Map<String, Integer> answers = new HashMap<>();
        Path folder = Files.createTempDirectory("readme");
        try {
            Path file = folder.resolve("Example.java");
            Files.writeString(file, source);
            JavaCompiler javac = ToolProvider.getSystemJavaCompiler();
            int rc = javac.run(null, null, null, "-Xlint:all", "-Werror", "-cp", System.getProperty("java.class.path"),
                    "-d", folder.toString(), file.toString());
            Due.is("javac of the example", rc, 0);
            if (rc == 0) {
                try (URLClassLoader loader = new URLClassLoader(new URL[] {folder.toUri().toURL()})) {
                    Method run = loader.loadClass("Example").getMethod("run", Map.class);
                    run.invoke(null, answers);
                }
            }
        } finally {
            remove(folder);
        }
        return answers;
    }

    private static void remove(Path folder) throws IOException {
        List<Path> all;
        try (Stream<Path> walk = Files.walk(folder)) {
            all = walk.sorted(Comparator.reverseOrder()).toList();
        }
        for (Path p : all) {
            Files.delete(p);
        }
    }

    /** The table of refusals. */
    private static void answers(String readme) {
        Due.isTrue("NONE", readme.contains("`NONE` " + SunHouses.NONE + " "));
        Due.isTrue("BAD", readme.contains("`BAD` " + SunHouses.BAD + " "));
        Due.isTrue("STATE", readme.contains("`STATE` " + SunHouses.STATE + " "));
        Due.isTrue("FULL", readme.contains("`FULL` " + SunHouses.FULL + " "));
        Due.isTrue("FINDINGS", readme.contains("| " + Due.NULL + " to " + Due.STORE + " |"));
        Due.isTrue("FAULTS", readme.contains("| " + new SunHouses().hill() + " and below |"));
    }

    /** Every test that is there stands on the page, and every one on the page is there. */
    private static void testsAreNamed(String readme, Path folder) throws IOException {
        Set<String> there = new TreeSet<>();
        try (Stream<Path> files = Files.list(folder)) {
            files.map(f -> f.getFileName().toString()).filter(f -> f.endsWith(".java"))
                    .forEach(f -> there.add(f.substring(0, f.length() - 5)));
        }
        Set<String> named = new TreeSet<>();
        Matcher m = Pattern.compile("`([A-Z]\\w*)`").matcher(readme);
        while (m.find()) {
            named.add(m.group(1));
        }
        named.removeAll(Set.of("SunHouses", "NONE", "BAD", "STATE", "FULL"));
        Due.isTrue("README.md names " + named + ", there is " + there, named.equals(there));
    }

    /** A name `SomeTest.method`, or `.method` behind one of that test, is a method that is there. */
    private static void methodsAreThere(String bounds) {
        int found = 0;
        for (String line : bounds.split("\n")) {
            String test = "";
            Matcher m = Pattern.compile("`(\\w*Test)?(?:\\.(\\w+))?`").matcher(line);
            while (m.find()) {
                test = m.group(1) == null ? test : m.group(1);
                found++;
                Due.isTrue("BOUNDS.md: " + test + "." + m.group(2), isThere(test, m.group(2)));
            }
        }
        Due.isTrue("BOUNDS.md names tests", found > 60);
    }

    private static boolean isThere(String test, String method) {
        try {
            for (Method m : Class.forName(test).getDeclaredMethods()) {
                if (method == null || m.getName().equals(method)) {
                    return true;
                }
            }
            return false;
        } catch (ClassNotFoundException e) {
            return false;
        }
    }
}
