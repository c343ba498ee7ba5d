import java.io.ByteArrayOutputStream;
import java.io.PrintStream;
import java.io.PrintWriter;
import java.io.StringWriter;
import java.lang.reflect.Method;
import java.lang.reflect.Modifier;
import java.net.URL;
import java.net.URLClassLoader;
import java.nio.file.Files;
import java.nio.file.Path;
import java.util.ArrayList;
import java.util.List;
import java.util.Optional;
import java.util.Set;
import java.util.TreeSet;
import java.util.regex.Matcher;
import java.util.regex.Pattern;
import java.util.spi.ToolProvider;
import java.util.stream.Stream;

/** README.md tells what is so: its example answers what it says, its tables have all calls and all tests. */
final class ReadmeTest {
    private static final Check C = new Check("ReadmeTest");

    public static void main(String[] args) throws Exception {
        String page = Files.readString(Path.of("README.md"));
        exampleAnswersAsItSays(between(page, "```java\n", "```"));
        callsAreThoseOfTheClass(between(page, "| calls |", "\n\n"));
        testsAreThoseThereAre(between(page, "| test |", "\n\n"));
        C.close();
    }

    private static String between(String page, String begin, String end) {
        int from = page.indexOf(begin);
        C.is("README.md has " + begin.strip(), true, from >= 0);
        if (from < 0) {
            return "";
        }
        int to = page.indexOf(end, from + begin.length());
        return page.substring(from + begin.length(), to < 0 ? page.length() : to);
    }

    private static void exampleAnswersAsItSays(String example) throws Exception {
        List<String> due = new ArrayList<>();
        Matcher told = Pattern.compile("show\\(x\\..*// (-?\\w+):").matcher(example);
        while (told.find()) {
            due.add(told.group(1));
        }
        Path directory = Files.createTempDirectory("readme");
        try {
            List<String> got = answersOf(example, directory);
            C.is("answers of the example", due.size(), got.size());
            for (int i = 0; i < due.size() && i < got.size(); i++) {
                C.is("call " + (i + 1) + " of the example", due.get(i), got.get(i));
            }
        } finally {
            remove(directory);
        }
    }

    private static List<String> answersOf(String example, Path directory) throws Exception {
        Path source = Files.writeString(directory.resolve("Use.java"), example);
        Optional<ToolProvider> javac = ToolProvider.findFirst("javac");
        if (javac.isEmpty()) {
            C.is("this Java has javac", true, false);
            return List.of();
        }
        StringWriter wrong = new StringWriter();
        PrintWriter out = new PrintWriter(wrong);
        int code = javac.get().run(out, out, "-cp", System.getProperty("java.class.path"), "-d", directory.toString(),
                source.toString());
        C.is("compiling the example: " + wrong, 0, code);
        return code == 0 ? printedBy(directory) : List.of();
    }

    private static List<String> printedBy(Path directory) throws Exception {
        PrintStream before = System.out;
        ByteArrayOutputStream printed = new ByteArrayOutputStream();
        try (URLClassLoader loader = new URLClassLoader(new URL[] {directory.toUri().toURL()})) {
            Method main = loader.loadClass("Use").getMethod("main", String[].class);
            System.setOut(new PrintStream(printed, true));
            main.invoke(null, (Object) new String[0]);
        } finally {
            System.setOut(before);
        }
        return printed.toString().lines().toList();
    }

    private static void remove(Path directory) throws Exception {
        try (Stream<Path> files = Files.list(directory)) {
            for (Path file : files.toList()) {
                Files.delete(file);
            }
        }
        Files.delete(directory);
    }

    private static void callsAreThoseOfTheClass(String table) {
        Set<String> calls = new TreeSet<>();
        for (Method m : DryRiver.class.getDeclaredMethods()) {
            if (Modifier.isPublic(m.getModifiers())) {
                calls.add(m.getName());
            }
        }
        C.is("calls of the table", calls.toString(), namesIn(table, "[a-z]+").toString());
    }

    private static void testsAreThoseThereAre(String table) throws Exception {
        Set<String> tests = new TreeSet<>();
        try (Stream<Path> files = Files.list(Path.of("src/test/java"))) {
            for (Path file : files.toList()) {
                String name = file.getFileName().toString();
                if (name.endsWith("Test.java")) {
                    tests.add(name.replace(".java", ""));
                }
            }
        }
        C.is("tests of the table", tests.toString(), firstNamesIn(table, "\\w+Test").toString());
    }

    private static Set<String> firstNamesIn(String table, String name) {
        return namesIn(table.replaceAll("(?m)^(\\|[^|]*\\|).*$", "$1"), name);
    }

    private static Set<String> namesIn(String table, String name) {
        Set<String> names = new TreeSet<>();
        Matcher m = Pattern.compile("`(" + name + ")`").matcher(table);
        while (m.find()) {
            names.add(m.group(1));
        }
        return names;
    }
}
