import java.io.IOException;
import java.lang.reflect.Method;
import java.lang.reflect.Modifier;
import java.net.URL;
import java.net.URLClassLoader;
import java.nio.file.Files;
import java.nio.file.Path;
import java.util.ArrayList;
import java.util.List;
import java.util.regex.Matcher;
import java.util.regex.Pattern;
import java.util.stream.Collectors;
import java.util.stream.Stream;
import javax.tools.JavaCompiler;
import javax.tools.ToolProvider;

/** README.md: its tour is compiled and run as it stands there, and it tells every call of the face. */
public final class ReadmeTest {
    private static final Pattern BLOCK = Pattern.compile("(?s)```java\n(.*?)```");
    private static final Pattern CALL = Pattern.compile("(x\\.\\w+\\([^)]*\\)); +// (-?\\d+)\\b.*");

    public static void main(String[] args) throws Exception {
        String page = Files.readString(Path.of("README.md"));
        String tour = tourOf(page);
        theTour(tour);
        everyCall(page, tour);
        Due.end();
    }

    private static String tourOf(String page) {
        StringBuilder tour = new StringBuilder();
        Matcher block = BLOCK.matcher(page);
        while (block.find()) {
            tour.append(block.group(1));
        }
        return tour.toString();
    }

    private static void theTour(String tour) throws Exception {
        List<String> calls = new ArrayList<>();
        List<Long> dues = new ArrayList<>();
        StringBuilder body = new StringBuilder();
        for (String line : tour.split("\n")) {
            Matcher call = CALL.matcher(line);
            if (call.matches()) {
                calls.add(call.group(1));
                dues.add(Long.parseLong(call.group(2)));
                body.append("answers.add((long) ").append(call.group(1)).append(");\n");
            } else {
                Due.holds("an answer stands behind: " + line, !line.startsWith("x."));
                body.append(line).append('\n');
            }
        }
        List<?> answers = answersOf(body.toString());
        Due.is("README.md: calls with answers", answers.size(), calls.size());
        for (int i = 0; i < Math.min(answers.size(), calls.size()); i++) {
            Due.is("README.md: " + calls.get(i), (Long) answers.get(i), dues.get(i));
        }
    }

    private static List<?> answersOf(String body) throws Exception {
        JavaCompiler compiler = ToolProvider.getSystemJavaCompiler();
        Due.holds("the tests are run by a JDK", compiler != null);
        if (compiler == null) {
            return List.of();
        }
        Path place = Files.createTempDirectory("tour");
        try {
            Path file = place.resolve("Tour.java");
            Files.writeString(file, "public class Tour { public static java.util.List<Long> answers() {\n"
                + "java.util.List<Long> answers = new java.util.ArrayList<>();\n" + body + "return answers; } }\n");
            int failed = compiler.run(null, null, null, "-cp", System.getProperty("java.class.path"),
                "-d", place.toString(), file.toString());
            Due.is("the tour compiles", failed, 0);
            if (failed != 0) {
                return List.of();
            }
            try (URLClassLoader loader = new URLClassLoader(new URL[] {place.toUri().toURL()})) {
                return (List<?>) loader.loadClass("Tour").getMethod("answers").invoke(null);
            }
        } finally {
            remove(place);
        }
    }

    private static void remove(Path place) throws IOException {
        List<Path> files;
        try (Stream<Path> found = Files.list(place)) {
            files = found.collect(Collectors.toList());
        }
        for (Path file : files) {
            Files.delete(file);
        }
        Files.delete(place);
    }

    private static void everyCall(String page, String tour) {
        int calls = 0;
        for (Method method : NewRays.class.getDeclaredMethods()) {
            if (Modifier.isPublic(method.getModifiers())) {
                calls++;
                String name = method.getName();
                int takes = method.getParameterCount();
                Due.holds("README.md has a row for " + name, hasRow(page, name, takes));
                Due.holds("the tour calls " + name, tour.contains("x." + name + "("));
            }
        }
        Due.is("calls of the face", calls, 30);
    }

    private static boolean hasRow(String page, String name, int takes) {
        Matcher row = Pattern.compile("(?m)^\\| `" + name + "\\(([^)]*)\\)` \\|").matcher(page);
        return row.find() && (row.group(1).isEmpty() ? 0 : row.group(1).split(",").length) == takes;
    }
}
