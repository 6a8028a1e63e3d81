import java.lang.reflect.Method;
import java.lang.reflect.Modifier;
import java.net.URL;
import java.net.URLClassLoader;
import java.nio.file.Files;
import java.nio.file.Path;
import java.util.ArrayList;
import java.util.List;
import java.util.Set;
import java.util.TreeSet;
import java.util.regex.Matcher;
import java.util.regex.Pattern;
import java.util.stream.Stream;
import javax.tools.ToolProvider;

/** What README.md tells is so: its examples compile and answer as they say, and it names every call and every test. */
public final class ReadmeTest {
    private static final Checks CHECKS = new Checks();
    private static final Pattern CALL = Pattern.compile("yard\\.(\\w+)\\((.*)\\); *// ([^ :]+): .+");
    private static final Pattern ROW = Pattern.compile("\\| `(\\w+)\\((.*?)\\)` \\|.*\\| (\\d+) \\|");
    private static final Pattern TEST = Pattern.compile("`(\\w+Test)`");

    public static void main(String[] args) throws Exception {
        examplesAnswerAsTheySay();
        tableNamesEveryCall();
        everyTestIsNamed();
        CHECKS.end();
    }

    private static void examplesAnswerAsTheySay() throws Exception {
        CHECKS.promise("README.md, the examples");
        List<String> functions = new ArrayList<>();
        List<String> statements = new ArrayList<>();
        for (List<String> block : Readme.blocks("java")) {
            (block.get(0).startsWith("static ") ? functions : statements).addAll(block);
        }
        List<?> answers = answersOf(program(functions, statements));
        Set<String> used = new TreeSet<>();
        int at = 0;
        for (String line : statements) {
            Matcher call = CALL.matcher(line);
            if (call.matches()) {
                CHECKS.due(line, at < answers.size() ? String.valueOf(answers.get(at)) : "nothing", call.group(3));
                used.add(call.group(1));
                at++;
            }
        }
        Set<String> names = new TreeSet<>();
        faceMethods().forEach(method -> names.add(method.getName()));
        CHECKS.due("the calls that are shown", used, names);
    }

    private static String program(List<String> functions, List<String> statements) {
        StringBuilder text = new StringBuilder("public final class Example {\n");
        functions.forEach(line -> text.append(line).append('\n'));
        text.append("public static java.util.List<Object> run() {\n");
        text.append("java.util.List<Object> answers = new java.util.ArrayList<>();\n");
        statements.forEach(line -> text.append(answering(line)).append('\n'));
        return text.append("return answers;\n}\n}\n").toString();
    }

    private static String answering(String line) {
        Matcher call = CALL.matcher(line);
        if (call.matches()) {
            return "try { answers.add(yard." + call.group(1) + "(" + call.group(2) + ")); }"
                + " catch (RuntimeException e) { answers.add(e.getClass().getSimpleName()); }";
        }
        CHECKS.due(line + " is a call without an answer", line.startsWith("yard."), false);
        return line;
    }

    private static List<?> answersOf(String program) throws Exception {
        Path room = Files.createTempDirectory("readme");
        try {
            Path source = Files.writeString(room.resolve("Example.java"), program);
            int refused = ToolProvider.getSystemJavaCompiler().run(null, null, null, "-Xlint:all", "-Werror",
                "-cp", System.getProperty("java.class.path"), "-d", room.toString(), source.toString());
            CHECKS.due("what the compiler answers", refused, 0);
            return refused == 0 ? answersFrom(room) : List.of();
        } finally {
            Rooms.deleteAll(room);
        }
    }

    private static List<?> answersFrom(Path room) throws Exception {
        try (URLClassLoader loader = new URLClassLoader(new URL[] {room.toUri().toURL()})) {
            return (List<?>) loader.loadClass("Example").getMethod("run").invoke(null);
        }
    }

    private static void tableNamesEveryCall() throws Exception {
        CHECKS.promise("README.md, the calls");
        Set<String> told = new TreeSet<>();
        int promise = 2;
        for (String line : Readme.lines()) {
            Matcher row = ROW.matcher(line);
            if (row.matches()) {
                int parameters = row.group(2).isEmpty() ? 0 : row.group(2).split(", ").length;
                told.add(row.group(1) + " of " + parameters);
                CHECKS.due("the promise of " + row.group(1), row.group(3), String.valueOf(promise));
                promise++;
            }
        }
        Set<String> face = new TreeSet<>();
        faceMethods().forEach(method -> face.add(method.getName() + " of " + method.getParameterCount()));
        CHECKS.due("the table", told, face);
    }

    private static List<Method> faceMethods() {
        return Stream.of(PluginYard.class.getDeclaredMethods()).filter(method -> Modifier.isPublic(method.getModifiers())).toList();
    }

    private static void everyTestIsNamed() throws Exception {
        CHECKS.promise("README.md, the tests");
        Set<String> named = new TreeSet<>();
        Matcher name = TEST.matcher(String.join("\n", Readme.lines()));
        while (name.find()) {
            named.add(name.group(1));
        }
        Set<String> there = new TreeSet<>();
        try (Stream<Path> files = Files.list(Path.of("src/test/java"))) {
            files.map(file -> file.getFileName().toString()).filter(file -> file.endsWith("Test.java"))
                .forEach(file -> there.add(file.replace(".java", "")));
        }
        CHECKS.due("tests", named, there);
    }
}
