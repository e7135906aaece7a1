import java.io.IOException;
import java.nio.file.Files;
import java.nio.file.Path;
import java.util.List;

/** .ci/run does what README.md says of it: tried on small projects of which it is known what passes. */
public final class ScriptTest {
    private static final Check CHECK = new Check("ScriptTest");
    private static final Path SCRIPT = Path.of(".ci/run").toAbsolutePath();
    private static final String CLASS = "public final class BlownNext { public int seven() { return 7; } }";

    /** A project of its own, with one test that passes, one helper that is no test, and one shared test that passes. */
    private static final class Project {
        final Path top;
        final Path root;
        final Path tests;
        final Path shared;

        Project() throws IOException {
            top = Files.createTempDirectory("script");
            root = top.resolve("main");
            tests = root.resolve("src/test/java");
            shared = top.resolve("shared/tests");
            Files.createDirectories(root.resolve(".ci"));
            Files.createDirectories(root.resolve("src/main/java"));
            Files.createDirectories(tests);
            Files.createDirectories(shared);
            Files.copy(SCRIPT, root.resolve(".ci/run"));
            Files.writeString(root.resolve("src/main/java/BlownNext.java"), CLASS);
            Files.writeString(tests.resolve("Helper.java"), ending("Helper", "System.exit(9);"));
            own("GoodTest", "");
            shared("Runs", "");
        }

        void own(String name, String body) throws IOException {
            Files.writeString(tests.resolve(name + ".java"), ending(name, body));
        }

        void shared(String name, String body) throws IOException {
            Files.writeString(shared.resolve(name + ".java"), ending(name, body));
        }
    }

    private interface Change {
        void of(Project project) throws IOException;
    }

    public static void main(String[] args) throws IOException, InterruptedException {
        allPass();
        ownFails();
        sharedFails();
        doesNotCompile();
        CHECK.end();
    }

    private static String ending(String name, String body) {
        return "public final class " + name + " { public static void main(String[] args) { System.out.println(\"" + name
            + " ran \" + new BlownNext().seven()); " + body + " } }";
    }

    private static void is(String what, boolean so) {
        CHECK.due(what, so ? 1 : 0, 1);
    }

    /** Runs the script on a project with a change: its exit code is 0 or not, and it says all of these. */
    private static void ends(String what, boolean well, Change change, String... says) throws IOException, InterruptedException {
        Project project = new Project();
        try {
            change.of(project);
            List<String> before = Shell.files(project.top);
            Shell ran = Shell.run(project.top, "bash", project.root.resolve(".ci/run").toString());
            is(what + ": exit code " + ran.code + ", " + ran.said, well == (ran.code == 0));
            for (String word : says) {
                is(what + ": says '" + word + "', not " + ran.said, ran.said.contains(word));
            }
            is(what + ": a helper is no test", !ran.said.contains("Helper ran"));
            is(what + ": writes nothing into the project", before.equals(Shell.files(project.top)));
        } finally {
            Shell.remove(project.top);
        }
    }

    private static void allPass() throws IOException, InterruptedException {
        ends("all pass", true, p -> { }, "GoodTest ran 7", "ok      GoodTest", "Runs ran 7", "ok      shared Runs", "2 passed, 0 failed");
        ends("more pass", true, p -> {
            p.own("OtherTest", "");
            p.shared("More", "");
        }, "OtherTest ran 7", "More ran 7", "ok      OtherTest", "ok      shared More", "4 passed, 0 failed");
    }

    private static void ownFails() throws IOException, InterruptedException {
        ends("an own test fails", false, p -> p.own("BadTest", "System.exit(1);"),
            "FAILED  BadTest", "ok      GoodTest", "ok      shared Runs", "2 passed, 1 failed");
        ends("an own test throws", false, p -> p.own("BadTest", "throw new IllegalStateException();"), "FAILED  BadTest");
    }

    private static void sharedFails() throws IOException, InterruptedException {
        ends("a shared test fails", false, p -> p.shared("Fault", "System.exit(1);"),
            "FAILED  shared Fault", "ok      GoodTest", "ok      shared Runs", "2 passed, 1 failed");
        ends("a shared test ends with 3", false, p -> p.shared("Fault", "System.exit(3);"), "FAILED  shared Fault");
        ends("a shared test throws", false, p -> p.shared("Fault", "throw new IllegalStateException();"), "FAILED  shared Fault");
        ends("no shared test", false, p -> Files.delete(p.shared.resolve("Runs.java")), "no test under ../shared/tests");
    }

    private static void doesNotCompile() throws IOException, InterruptedException {
        ends("a shared test that does not compile", false, p -> p.shared("Fault", "none"), "FAILED  shared Fault", "ok      shared Runs");
        ends("an own test that does not compile", false, p -> p.own("BadTest", "none"), "does not compile");
        ends("a class that does not compile", false,
            p -> Files.writeString(p.root.resolve("src/main/java/BlownNext.java"), "none"), "does not compile");
        ends("a warning", false, p -> p.own("BadTest", "java.util.List raw = null;"), "does not compile");
    }
}
