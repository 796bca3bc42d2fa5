import java.io.File;
import java.io.IOException;
import java.lang.reflect.Method;
import java.lang.reflect.Modifier;
import java.nio.file.DirectoryStream;
import java.nio.file.Files;
import java.nio.file.Path;
import java.util.List;
import java.util.Set;
import java.util.TreeSet;
import java.util.regex.Matcher;
import java.util.regex.Pattern;
import javax.tools.JavaCompiler;
import javax.tools.ToolProvider;

/**
 * README.md: its blocks of Java are compiled as they stand, as one run, and each call is held against the answer that
 * the comment behind it begins with.
 */
public final class ReadmeTest {
    private static final Path README = Path.of("README.md");
    private static final Path TESTS = Path.of("src/test/java");
    // the call with the variable it may go to; its name; the answer, a number or the name of a constant
    private static final Pattern CALL = Pattern.compile(
        "(?:(?:int|long) (\\w+) = )?(house\\.(\\w+)\\(.*\\)); +// (-?\\d+|[A-Z]+): \\S.*");
    private static final String MAKING = "VoiceHouse house = new VoiceHouse();";
    private static final int MOST_CALLS = 512;

    private static final StringBuilder run = new StringBuilder();
    private static final Set<String> shown = new TreeSet<>();
    private static int calls;

    public static void main(String[] args) throws Exception {
        List<String> lines = Files.readAllLines(README);
        readBlocks(lines);
        everyCallIsShown();
        everyTestIsNamed(String.join("\n", lines));
        if (Check.wrongs() == 0) {
            runCalls();
        }
        Check.end();
    }

    private static void readBlocks(List<String> lines) {
        boolean inside = false;
        for (int n = 0; n < lines.size(); n++) {
            String line = lines.get(n);
            if (line.startsWith("```")) {
                inside = line.equals("```java");
            } else if (inside && !line.isBlank()) {
                readLine(line, "README.md, line " + (n + 1));
            }
        }
    }

    private static void readLine(String line, String place) {
        Matcher call = CALL.matcher(line);
        boolean isCall = call.matches();
        Check.under(place);
        Check.isTrue("a call with its answer: " + line, isCall || line.equals(MAKING));
        if (!isCall) {
            run.append(line).append('\n');
            return;
        }
        calls++;
        shown.add(call.group(3));
        String got = call.group(2);
        if (call.group(1) != null) {
            run.append(line).append('\n');
            got = call.group(1);
        }
        String due = call.group(4).matches("[A-Z]+") ? "VoiceHouse." + call.group(4) : call.group(4) + "L";
        run.append("Check.under(\"" + place + "\");\n");
        run.append("Check.due(\"" + call.group(2) + "\", " + got + ", " + due + ");\n");
    }

    private static void everyCallIsShown() {
        Check.under("README.md");
        for (Method method : VoiceHouse.class.getDeclaredMethods()) {
            if (Modifier.isPublic(method.getModifiers())) {
                Check.isTrue(method.getName() + "() is shown", shown.contains(method.getName()));
            }
        }
        Check.isTrue("not more calls than a house is promised for", calls <= MOST_CALLS);
    }

    private static void everyTestIsNamed(String text) throws IOException {
        try (DirectoryStream<Path> tests = Files.newDirectoryStream(TESTS, "*.java")) {
            for (Path test : tests) {
                String name = test.getFileName().toString().replace(".java", "");
                Check.isTrue(name + " is named", text.contains("`" + name + "`"));
            }
        }
    }

    /** The class of the calls goes where this one lies, so that it meets the same VoiceHouse and the same Check. */
    private static void runCalls() throws Exception {
        String classes = System.getProperty("java.class.path").split(File.pathSeparator)[0];
        Path source = Path.of(classes, "ReadmeCalls.java");
        Files.writeString(source, "final class ReadmeCalls {\nstatic void run() {\n" + run + "}\n}\n");
        JavaCompiler compiler = ToolProvider.getSystemJavaCompiler();
        int failed = compiler.run(null, null, null, "-cp", classes, "-d", classes, source.toString());
        Check.due("javac of the calls that README.md shows", failed, 0);
        if (failed == 0) {
            Class.forName("ReadmeCalls").getDeclaredMethod("run").invoke(null);
        }
    }
}
