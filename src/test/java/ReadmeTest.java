import java.io.ByteArrayOutputStream;
import java.io.IOException;
import java.io.PrintStream;
import java.lang.reflect.Method;
import java.net.URL;
import java.net.URLClassLoader;
import java.nio.file.Files;
import java.nio.file.Path;
import java.util.Set;
import java.util.TreeSet;
import java.util.regex.Matcher;
import java.util.regex.Pattern;
import java.util.stream.Stream;
import javax.tools.ToolProvider;

/** README.md: its example, tried as it stands, and its table of the tests. */
public final class ReadmeTest {
    private static final Pattern TEST_NAME = Pattern.compile("`(\\w+Test)`");

    public static void main(String[] args) throws Exception {
        String readme = Files.readString(Path.of("README.md"));
        int example = readme.indexOf("```java\n");
        Expect.isTrue("README.md has an example", example >= 0);
        String due = block(readme, "text", example);
        Expect.same("README.md's example", due, printedBy(block(readme, "java", example)));
        Expect.same("README.md's table of the tests", testsThatAre().toString(), testsNamed(readme).toString());
        Expect.finish();
    }

    /** The first block of a kind from a place on. */
    private static String block(String readme, String kind, int from) {
        String begin = "```" + kind + "\n";
        int first = readme.indexOf(begin, from) + begin.length();
        return readme.substring(first, readme.indexOf("```\n", first));
    }

    private static String printedBy(String program) throws Exception {
        Path folder = Files.createTempDirectory("readme");
        Path source = Files.writeString(folder.resolve("Example.java"), program);
        try {
            int failed = ToolProvider.getSystemJavaCompiler().run(null, null, null, "-Xlint:all", "-Werror",
                    "-cp", System.getProperty("java.class.path"), "-d", folder.toString(), source.toString());
            return failed == 0 ? printedByMain(folder) : "it does not compile";
        } finally {
            remove(folder);
        }
    }

    private static String printedByMain(Path folder) throws Exception {
        PrintStream before = System.out;
        ByteArrayOutputStream printed = new ByteArrayOutputStream();
        try (URLClassLoader loader = new URLClassLoader(new URL[] {folder.toUri().toURL()})) {
            Method main = loader.loadClass("Example").getMethod("main", String[].class);
            System.setOut(new PrintStream(printed, true));
            main.invoke(null, (Object) new String[0]);
        } finally {
            System.setOut(before);
        }
        return printed.toString().replace(System.lineSeparator(), "\n");
    }

    private static void remove(Path folder) throws IOException {
        try (Stream<Path> files = Files.list(folder)) {
            for (Path file : files.toList()) {
                Files.delete(file);
            }
        }
        Files.delete(folder);
    }

    private static Set<String> testsThatAre() throws IOException {
        Set<String> names = new TreeSet<>();
        try (Stream<Path> files = Files.list(Path.of("src/test/java"))) {
            files.map(file -> file.getFileName().toString()).filter(name -> name.endsWith("Test.java"))
                    .forEach(name -> names.add(name.replace(".java", "")));
        }
        return names;
    }

    private static Set<String> testsNamed(String readme) {
        Set<String> names = new TreeSet<>();
        Matcher found = TEST_NAME.matcher(readme);
        while (found.find()) {
            names.add(found.group(1));
        }
        return names;
    }
}
