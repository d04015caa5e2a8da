import java.io.IOException;
import java.lang.reflect.InvocationTargetException;
import java.net.URL;
import java.net.URLClassLoader;
import java.nio.file.DirectoryStream;
import java.nio.file.Files;
import java.nio.file.Path;
import java.util.HashMap;
import java.util.LinkedHashMap;
import java.util.Map;
import java.util.Set;
import java.util.TreeSet;
import java.util.regex.Matcher;
import java.util.regex.Pattern;

/** What README.md says: its example is compiled as it stands there, and each call must answer what is said behind it. */
public final class ReadmeTest extends Check {
    private static final Pattern CALL = Pattern.compile("(square\\.(\\w+)\\([^;]*\\)); +// (-?\\d+): .+");
    private static final String MADE = "DialSquare square = new DialSquare();";

    public static void main(String[] args) throws Exception {
        String readme = Files.readString(Path.of("README.md"));
        int start = readme.indexOf("```java\n") + 8;
        String example = readme.substring(start, readme.indexOf("```", start));
        example(example);
        refusals(readme);
        tests(readme);
        end("ReadmeTest");
    }

    private static void example(String example) throws Exception {
        Map<String, Integer> due = new LinkedHashMap<>();
        StringBuilder asked = new StringBuilder();
        String[] lines = example.split("\n");
        is(0, lines[0].equals(MADE) ? 0 : 1);
        for (int i = 1; i < lines.length; i++) {
            if (lines[i].isEmpty()) continue;
            Matcher m = CALL.matcher(lines[i]);
            if (!m.matches()) {
                fails("no call with its answer: " + lines[i]);
                continue;
            }
            String name = due.size() + " " + m.group(1);
            due.put(name, Integer.parseInt(m.group(3)));
            asked.append("all.put(\"").append(name).append("\", ").append(m.group(1)).append(");\n");
        }
        holds(due.size() >= 20 && due.size() <= 512);
        for (String of : new String[] {"DialSquare", "Model"}) answers(due, of, example, asked.toString());
    }

    /** The lines as they are, and once more so that each answer is seen. */
    private static void answers(Map<String, Integer> due, String of, String example, String asked) throws Exception {
        String code = "public final class Example {\n"
                + "public static void asItStands() {\n" + example.replace("DialSquare", of) + "}\n"
                + "public static void all(java.util.Map<String, Integer> all) {\n" + MADE.replace("DialSquare", of) + "\n" + asked + "}\n}\n";
        Path dir = Files.createTempDirectory("readme");
        try {
            Path file = Files.writeString(dir.resolve("Example.java"), code);
            String classes = System.getProperty("java.class.path");
            ProcessBuilder compiler = new ProcessBuilder("javac", "-cp", classes, "-d", dir.toString(), file.toString());
            is(0, compiler.inheritIO().start().waitFor());
            Map<String, Integer> got = run(dir);
            for (Map.Entry<String, Integer> e : due.entrySet()) {
                is(1, got.containsKey(e.getKey()) ? 1 : 0);
                if (!e.getValue().equals(got.get(e.getKey()))) {
                    fails("README.md has " + e.getValue() + " for " + e.getKey() + ", " + of + " answers " + got.get(e.getKey()));
                }
            }
        } finally {
            for (String name : new String[] {"Example.java", "Example.class"}) Files.deleteIfExists(dir.resolve(name));
            Files.delete(dir);
        }
    }

    private static Map<String, Integer> run(Path dir) throws IOException, ReflectiveOperationException {
        Map<String, Integer> got = new HashMap<>();
        try (URLClassLoader loader = new URLClassLoader(new URL[] {dir.toUri().toURL()}, ReadmeTest.class.getClassLoader())) {
            Class<?> example = loader.loadClass("Example");
            example.getMethod("asItStands").invoke(null);
            example.getMethod("all", Map.class).invoke(null, got);
        } catch (InvocationTargetException e) {
            fails("the example of README.md throws " + e.getCause());
        }
        return got;
    }

    private static void refusals(String readme) {
        String[] names = {"BAD", "FULL", "NONE", "STATE"};
        int[] due = {DialSquare.BAD, DialSquare.FULL, DialSquare.NONE, DialSquare.STATE};
        for (int i = 0; i < 4; i++) holds(readme.contains("| `" + names[i] + "` (" + due[i] + ") |"));
        for (int host : new int[] {NO_ROW, NOTHING, OUTSIDE, OTHER, BELOW, PARTED}) holds(readme.contains("\n| " + host + " |"));
        holds(readme.contains("512 calls"));
    }

    /** Each test that there is, and no other, is named. */
    private static void tests(String readme) throws IOException {
        Set<String> named = new TreeSet<>(), there = new TreeSet<>();
        for (Matcher m = Pattern.compile("`(\\w+Test)`").matcher(readme); m.find(); ) named.add(m.group(1));
        try (DirectoryStream<Path> files = Files.newDirectoryStream(Path.of("src/test/java"), "*Test.java")) {
            for (Path file : files) there.add(file.getFileName().toString().replace(".java", ""));
        }
        if (!named.equals(there)) fails("README.md names " + named + ", there are " + there);
    }
}
