import java.io.File;
import java.lang.reflect.Method;
import java.lang.reflect.Modifier;
import java.net.URL;
import java.net.URLClassLoader;
import java.nio.file.Files;
import java.nio.file.Path;
import java.util.ArrayList;
import java.util.Comparator;
import java.util.List;
import java.util.regex.Matcher;
import java.util.regex.Pattern;
import java.util.stream.Stream;

/** Makes the calls that stand in README.md, and looks whether they answer as it says behind them. */
public final class ReadmeTest {
    private static final Pattern CALL =
            Pattern.compile("(?:(int \\w+) = )?(house\\.\\w+\\(.*\\)); +// (?:throws\\.(\\w+)|([-.\\w]+))(?:: .*)?");
    private static final String MADE = "FramemapHouse house = new FramemapHouse();";

    private static int wrong = 0;

    public static void main(String[] args) throws Exception {
        String text = Files.readString(Path.of("README.md"));
        List<String> lines = exampleLines(text);
        same("calls with their answers in README.md", lines.size() > 20, true);
        for (Method method : FramemapHouse.class.getDeclaredMethods()) {
            if (Modifier.isPublic(method.getModifiers())) {
                same("README.md tells of " + method.getName(), text.contains("house." + method.getName() + "("), true);
            }
        }
        tryCalls(lines);
        System.out.println(lines.size() + " lines of README.md, " + wrong + " not as due");
        if (wrong != 0) {
            System.exit(1);
        }
    }

    /** Called by the class that is written here, too. */
    public static void same(String call, Object got, Object due) {
        if (!due.equals(got)) {
            wrong++;
            System.out.println(call + " answered " + got + ", README.md says " + due);
        }
    }

    private static List<String> exampleLines(String text) {
        List<String> found = new ArrayList<>();
        boolean isExample = false;
        for (String line : text.split("\n")) {
            if (line.startsWith("```")) {
                isExample = line.equals("```java");
            } else if (isExample && !line.isBlank()) {
                found.add(line);
            }
        }
        return found;
    }

    private static String asJava(String line) {
        if (line.equals(MADE)) {
            return line;
        }
        Matcher told = CALL.matcher(line);
        if (!told.matches()) {
            throw new IllegalStateException("no call with its answer: " + line);
        }
        String call = told.group(2);
        if (told.group(3) != null) {
            return "try { ReadmeTest.same(\"" + call + "\", " + call + ", \"throws." + told.group(3) + "\"); } catch ("
                    + told.group(3) + " due) { }";
        }
        if (told.group(1) == null) {
            return "ReadmeTest.same(\"" + call + "\", " + call + ", " + told.group(4) + ");";
        }
        String name = told.group(1).substring("int ".length());
        return told.group(1) + " = " + call + "; ReadmeTest.same(\"" + call + "\", " + name + ", " + told.group(4) + ");";
    }

    private static void tryCalls(List<String> lines) throws Exception {
        Path room = Files.createTempDirectory("readme");
        try {
            StringBuilder source = new StringBuilder("public final class ReadmeCalls { public static void make() {\n");
            for (String line : lines) {
                source.append(asJava(line)).append('\n');
            }
            Path file = room.resolve("ReadmeCalls.java");
            Files.writeString(file, source.append("} }\n"));
            String path = System.getProperty("java.class.path");
            int compiled = new ProcessBuilder("javac", "-encoding", "UTF-8", "-proc:none", "-cp", path,
                    "-d", room.toString(), file.toString()).inheritIO().start().waitFor();
            same("compiling the calls of README.md", compiled, 0);
            if (compiled == 0) {
                try (URLClassLoader loader = new URLClassLoader(new URL[] {room.toUri().toURL()})) {
                    loader.loadClass("ReadmeCalls").getMethod("make").invoke(null);
                }
            }
        } finally {
            try (Stream<Path> files = Files.walk(room)) {
                files.sorted(Comparator.reverseOrder()).map(Path::toFile).forEach(File::delete);
            }
        }
    }
}
