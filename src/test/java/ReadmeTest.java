import java.io.IOException;
import java.lang.reflect.Method;
import java.lang.reflect.Modifier;
import java.net.URL;
import java.net.URLClassLoader;
import java.nio.file.Files;
import java.nio.file.Path;
import java.util.ArrayList;
import java.util.List;
import java.util.Set;
import java.util.TreeSet;
import java.util.regex.Matcher;
import java.util.regex.Pattern;
import java.util.stream.Stream;
import javax.tools.ToolProvider;

/**
 * What README.md shows as the use of the class compiles as it stands, each of its calls answers what is told
 * beside it, and all calls of the class are shown. README.md names all tests of the project, and no others.
 */
public final class ReadmeTest {
    private static final Path OUT = Path.of("build", "readme");
    private static final Pattern BLOCK = Pattern.compile("(?ms)^```java\n(.*?)^```$");
    private static final Pattern CALL = Pattern.compile("^\\s*(x\\.(\\w+)\\(.*\\));\\s+// (-?\\d+|[A-Z]+)(: .*)?$");
    private static final Pattern TEST_NAME = Pattern.compile("`(\\w+Test)`");

    /** The calls shown, as they stand in README.md, and the answers told beside them. */
    private final List<String> shown = new ArrayList<>();
    private final List<String> told = new ArrayList<>();
    private final Set<String> names = new TreeSet<>();
    private int blocks = 0;

    public static void main(String[] args) throws IOException, ReflectiveOperationException {
        String text = Files.readString(Path.of("README.md"));
        new ReadmeTest().use(text);
        namesTests(text);
        Due.end();
    }

    private void use(String text) throws IOException, ReflectiveOperationException {
        StringBuilder plain = new StringBuilder("class ReadmePlain {\n");
        StringBuilder asking = new StringBuilder("public class ReadmeAsking {\n"
            + "public static java.util.List<long[]> got = new java.util.ArrayList<>();\n");
        Matcher block = BLOCK.matcher(text);
        while (block.find()) {
            String head = "void use" + blocks++ + "() {\n";
            plain.append(head).append(block.group(1)).append("}\n");
            asking.append("public static ").append(head).append(asked(block.group(1))).append("}\n");
        }
        Due.holds("some use is shown", blocks > 0 && !shown.isEmpty());
        Due.holds("it compiles as it stands", compiles("ReadmePlain", plain + "}\n"));
        allCallsAreShown();
        boolean compiled = compiles("ReadmeAsking", asking + told() + "}\n");
        Due.holds("its answers are numbers or names of the class", compiled);
        if (compiled) {
            answers();
        }
    }

    /** Each call with its answer beside it is asked for its place among all and what it answers. */
    private String asked(String lines) {
        StringBuilder asking = new StringBuilder();
        for (String line : lines.split("\n")) {
            Matcher call = CALL.matcher(line);
            if (call.matches()) {
                asking.append("got.add(new long[] {").append(shown.size()).append(", ");
                asking.append(call.group(1)).append("});\n");
                shown.add(call.group(1));
                names.add(call.group(2));
                told.add(call.group(3));
            } else {
                Due.holds("a call is told with its answer: " + line, !line.replaceFirst("//.*", "").contains("x."));
                asking.append(line).append('\n');
            }
        }
        return asking.toString();
    }

    private String told() {
        List<String> values = new ArrayList<>();
        for (String value : told) {
            values.add(Character.isUpperCase(value.charAt(0)) ? "WindBoxes." + value : value + "L");
        }
        return "public static long[] told = {" + String.join(", ", values) + "};\n";
    }

    private static boolean compiles(String name, String source) throws IOException {
        Files.createDirectories(OUT);
        Path file = OUT.resolve(name + ".java");
        Files.writeString(file, source);
        String classes = System.getProperty("java.class.path");
        return ToolProvider.getSystemJavaCompiler().run(null, null, null, "-cp", classes, "-d", OUT.toString(),
            file.toString()) == 0;
    }

    private void answers() throws IOException, ReflectiveOperationException {
        URL[] where = {OUT.toUri().toURL()};
        try (URLClassLoader loader = new URLClassLoader(where, ReadmeTest.class.getClassLoader())) {
            Class<?> asking = loader.loadClass("ReadmeAsking");
            for (int i = 0; i < blocks; i++) {
                asking.getMethod("use" + i).invoke(null);
            }
            long[] due = (long[]) asking.getField("told").get(null);
            Set<Integer> heard = new TreeSet<>();
            for (Object answer : (List<?>) asking.getField("got").get(null)) {
                int place = (int) ((long[]) answer)[0];
                heard.add(place);
                Due.same("README.md: " + shown.get(place), ((long[]) answer)[1], due[place]);
            }
            Due.same("each call shown was asked", heard.size(), shown.size());
        }
    }

    private void allCallsAreShown() {
        for (Method m : WindBoxes.class.getDeclaredMethods()) {
            if (Modifier.isPublic(m.getModifiers())) {
                Due.holds("README.md shows " + m.getName(), names.contains(m.getName()));
            }
        }
    }

    private static void namesTests(String text) throws IOException {
        Set<String> named = new TreeSet<>();
        Matcher name = TEST_NAME.matcher(text);
        while (name.find()) {
            named.add(name.group(1));
        }
        Set<String> there = new TreeSet<>();
        try (Stream<Path> files = Files.list(Path.of("src/test/java"))) {
            files.map(file -> file.getFileName().toString()).filter(file -> file.endsWith("Test.java"))
                .forEach(file -> there.add(file.replace(".java", "")));
        }
        Due.holds("README.md names " + named + ", there are " + there, named.equals(there));
    }
}
