import java.io.IOException;
import java.lang.reflect.Method;
import java.lang.reflect.Modifier;
import java.net.URL;
import java.net.URLClassLoader;
import java.nio.file.Files;
import java.nio.file.Path;
import java.util.ArrayList;
import java.util.Comparator;
import java.util.List;
import java.util.regex.Matcher;
import java.util.regex.Pattern;
import java.util.stream.Collectors;
import java.util.stream.Stream;
import javax.tools.JavaCompiler;
import javax.tools.ToolProvider;

/** README.md: its code compiles, every call that it shows has the answer that it shows, and it names every call and test. */
public final class ReadmeTests {
    private static final Pattern BLOCK = Pattern.compile("(?ms)^```(\\w+)\\n(.*?)^```$");
    // a call that stands alone, and behind it what it answers
    private static final Pattern SHOWN = Pattern.compile("(x\\.(\\w+)\\(.*\\)); *// (-?\\d+)(?::.*)?");
    private static final int CALLS_OF_AN_OBJECT = 512;

    private static final List<String> calls = new ArrayList<>();
    private static final List<Long> shown = new ArrayList<>();

    public static void main(String[] args) throws IOException, ReflectiveOperationException {
        String page = Files.readString(Path.of("README.md"));
        List<Long> answers = run(source(page));
        Due.is("calls with an answer", answers.size(), shown.size());
        for (int i = 0; i < answers.size() && i < shown.size(); i++) {
            Due.is("README: " + calls.get(i), answers.get(i), shown.get(i));
        }
        table(page);
        namesEveryCall(page);
        namesEveryTest(page);
        Due.finish("ReadmeTests");
    }

    /** The page's code as one class: functions as they stand, the rest in one method that keeps each answer. */
    private static String source(String page) {
        StringBuilder functions = new StringBuilder();
        StringBuilder steps = new StringBuilder();
        Matcher block = BLOCK.matcher(page);
        while (block.find()) {
            if (block.group(1).equals("java") && block.group(2).startsWith("static ")) {
                functions.append(block.group(2));
            } else if (block.group(1).equals("java")) {
                block.group(2).lines().forEach(line -> steps.append(step(line)).append('\n'));
            }
        }
        return "public final class ReadmeExample {\n" + functions
            + "public static void run(java.util.List<Long> answers) {\n" + steps + "}\n}\n";
    }

    private static String step(String line) {
        Matcher m = SHOWN.matcher(line);
        Due.isTrue("README shows an answer: " + line, m.matches() || !line.startsWith("x."));
        if (!m.matches()) {
            return line;
        }
        calls.add(m.group(1));
        shown.add(Long.valueOf(m.group(3)));
        return "answers.add((long) " + m.group(1) + ");";
    }

    private static List<Long> run(String source) throws IOException, ReflectiveOperationException {
        List<Long> answers = new ArrayList<>();
        Path folder = Files.createTempDirectory("readme");
        try {
            Path file = Files.writeString(folder.resolve("ReadmeExample.java"), source);
            JavaCompiler compiler = ToolProvider.getSystemJavaCompiler();
            int result = compiler == null ? -1 : compiler.run(null, null, null, "-Xlint:all,-cast", "-Werror", "-proc:none",
                "-cp", System.getProperty("java.class.path"), "-d", folder.toString(), file.toString());
            Due.is("README's code compiles", result, 0);
            if (result == 0) {
                try (URLClassLoader loader = new URLClassLoader(new URL[] {folder.toUri().toURL()})) {
                    loader.loadClass("ReadmeExample").getMethod("run", List.class).invoke(null, answers);
                }
            }
        } finally {
            remove(folder);
        }
        return answers;
    }

    private static void remove(Path folder) throws IOException {
        List<Path> paths;
        try (Stream<Path> all = Files.walk(folder)) {
            paths = all.sorted(Comparator.reverseOrder()).collect(Collectors.toList());
        }
        for (Path path : paths) {
            Files.delete(path);
        }
    }

    /** The table of the first days is what why() answers for the war that the page tells. */
    private static void table(String page) {
        Matcher text = Pattern.compile("tell\\(x, (\"war rain 30;\"(?:\\s*\\+ \"[^\"]*\")*)\\)").matcher(page);
        Due.isTrue("README tells a war", text.find());
        TwoCalendars x = new TwoCalendars();
        Due.feed(x, text.group(1).replaceAll("\"\\s*\\+ \"", "").replace("\"", ""));
        x.war();
        Matcher row = Pattern.compile("(?m)^land (\\d)((?: +\\d)+)$").matcher(page);
        int rows = 0;
        while (row.find()) {
            String[] reasons = row.group(2).trim().split(" +");
            for (int day = 0; day < reasons.length; day++) {
                Due.is("README: why(" + row.group(1) + ", " + day + ")", x.why(Integer.parseInt(row.group(1)), day), Integer.parseInt(reasons[day]));
            }
            rows++;
        }
        Due.is("README: lands in the table", rows, x.count(0));
    }

    private static void namesEveryCall(String page) {
        for (Method method : TwoCalendars.class.getDeclaredMethods()) {
            if (Modifier.isPublic(method.getModifiers())) {
                Due.isTrue("README shows " + method.getName(), page.contains("x." + method.getName() + "("));
            }
        }
        // some forty are the feeds and ends of the two texts
        Due.isTrue("README's object is not asked too often", shown.size() + 40 <= CALLS_OF_AN_OBJECT);
    }

    private static void namesEveryTest(String page) throws IOException {
        Due.isTrue("README names .ci/run", page.contains("\n.ci/run\n"));
        try (Stream<Path> files = Files.list(Path.of("src/test/java"))) {
            for (Path file : files.collect(Collectors.toList())) {
                String name = file.getFileName().toString().replace(".java", "");
                Due.isTrue("README names " + name, page.contains("`" + name + "`"));
            }
        }
    }
}
