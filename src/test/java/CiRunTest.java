import java.io.IOException;
import java.nio.file.Files;
import java.nio.file.Path;
import java.util.List;
import java.util.concurrent.CompletableFuture;

/** The script that README.md tells to run, tried on small projects: it passes where all is well, and else fails. */
public final class CiRunTest {
    private static final Checks CHECKS = new Checks();
    private static final Path SCRIPT = Path.of(".ci/run");
    private static final String PROGRAM = "public final class PluginYard { public int one() { return 1; } }";
    private static final String PASSES = passingIf("new PluginYard().one() == 1");
    private static final String FAILS = passingIf("new PluginYard().one() == 2");
    private static final String BROKEN = "public final class NAME { no Java }";

    public static void main(String[] args) throws Exception {
        CHECKS.promise("README.md, how to run the tests");
        CHECKS.due("what is to be run", Readme.blocks("sh"), List.of(List.of(SCRIPT.toString())));
        CHECKS.due("it can be run", Files.isExecutable(SCRIPT), true);
        passes();
        fails();
        CHECKS.end();
    }

    private static void passes() throws Exception {
        Outcome outcome = tried(PROGRAM, PASSES, PASSES).get();
        CHECKS.due("where all tests pass: the exit code", outcome.code, 0);
        CHECKS.due("a test under ../shared/tests is run", outcome.ran("SharedRuns"), true);
        CHECKS.due("a test of the project is run", outcome.ran("OwnTest"), true);
    }

    // All are begun before the first is waited for: most of their time the compiler takes.
    private static void fails() throws Exception {
        CompletableFuture<Outcome> sharedFails = tried(PROGRAM, FAILS, PASSES);
        CompletableFuture<Outcome> ownFails = tried(PROGRAM, PASSES, FAILS);
        CompletableFuture<Outcome> sharedBroken = tried(PROGRAM, BROKEN, PASSES);
        CompletableFuture<Outcome> ownBroken = tried(PROGRAM, PASSES, BROKEN);
        CompletableFuture<Outcome> programBroken = tried(BROKEN, PASSES, PASSES);
        CompletableFuture<Outcome> noShared = tried(PROGRAM, null, PASSES);
        CompletableFuture<Outcome> noOwn = tried(PROGRAM, PASSES, null);
        failsWhere("a shared test fails", sharedFails);
        CHECKS.due("the other tests are run where one fails", sharedFails.get().ran("OwnTest"), true);
        failsWhere("a test of the project fails", ownFails);
        failsWhere("a shared test does not compile", sharedBroken);
        failsWhere("a test of the project does not compile", ownBroken);
        failsWhere("the program does not compile", programBroken);
        failsWhere("there is no shared test", noShared);
        failsWhere("there is no test of the project", noOwn);
    }

    private static void failsWhere(String where, CompletableFuture<Outcome> run) throws Exception {
        CHECKS.due("where " + where + ", that the exit code is 0", run.get().code == 0, false);
    }

    private static String passingIf(String condition) {
        return "public final class NAME { public static void main(String[] args) {"
            + " System.out.println(\"NAME ran\"); if (!(" + condition + ")) System.exit(1); } }";
    }

    private static CompletableFuture<Outcome> tried(String program, String sharedTest, String ownTest) {
        return CompletableFuture.supplyAsync(() -> {
            try {
                return run(program, sharedTest, ownTest);
            } catch (IOException | InterruptedException e) {
                throw new IllegalStateException(e);
            }
        });
    }

    private static Outcome run(String program, String sharedTest, String ownTest) throws IOException, InterruptedException {
        Path room = Files.createTempDirectory("cirun");
        try {
            Path project = room.resolve("main");
            write(project.resolve("src/main/java"), "PluginYard", program);
            write(room.resolve("shared/tests"), "SharedRuns", sharedTest);
            write(project.resolve("src/test/java"), "OwnTest", ownTest);
            Path script = project.resolve(SCRIPT);
            Files.createDirectories(script.getParent());
            Files.copy(SCRIPT, script);
            Path output = room.resolve("output");
            // By way of sh, since a directory for a while may be one from which nothing can be run.
            Process process = new ProcessBuilder("sh", script.toString())
                .redirectErrorStream(true).redirectOutput(output.toFile()).start();
            return new Outcome(process.waitFor(), Files.readString(output));
        } finally {
            Rooms.deleteAll(room);
        }
    }

    private static void write(Path directory, String name, String text) throws IOException {
        Files.createDirectories(directory);
        if (text != null) {
            Files.writeString(directory.resolve(name + ".java"), text.replace("NAME", name));
        }
    }

    private record Outcome(int code, String output) {
        boolean ran(String name) {
            return output.contains(name + " ran");
        }
    }
}
