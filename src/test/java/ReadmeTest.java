import java.io.IOException;
import java.nio.file.Files;
import java.nio.file.Path;
import java.util.ArrayList;
import java.util.List;
import java.util.Set;
import java.util.TreeSet;
import java.util.regex.Matcher;
import java.util.regex.Pattern;

/** What README.md says is so: its code answers as told behind it, it names all calls, tests and files rightly. */
public final class ReadmeTest {
    private static final Check CHECK = new Check("ReadmeTest");
    private static final Path ROOT = Path.of("").toAbsolutePath();
    private static final Pattern ANSWERED = Pattern.compile("(.+\\));\\s+// (-?[0-9]+)");
    private static String readme;

    public static void main(String[] args) throws IOException, InterruptedException {
        readme = Files.readString(ROOT.resolve("README.md"));
        Path made = Files.createTempDirectory("readme");
        try {
            examples(made);
            oneTestAlone(made);
        } finally {
            Shell.remove(made);
        }
        linesOfTheText();
        allCalls();
        allTests();
        filesAndCommands();
        CHECK.end();
    }

    private static void is(String what, boolean so) {
        CHECK.due(what, so ? 1 : 0, 1);
    }

    private static List<String> javaBlocks() {
        List<String> found = new ArrayList<>();
        Matcher blocks = Pattern.compile("(?s)```java\n(.*?)```").matcher(readme);
        while (blocks.find()) {
            found.add(blocks.group(1));
        }
        return found;
    }

    /** The page's code, compiled as it stands, but that each row with an answer behind it is a row of a test. */
    private static void examples(Path made) throws IOException, InterruptedException {
        StringBuilder code = new StringBuilder("public final class Examples {\n static final Check CHECK = new Check(\"README.md\");\n");
        StringBuilder calls = new StringBuilder();
        int rows = 0;
        int examples = 0;
        for (String block : javaBlocks()) {
            if (block.startsWith("static ")) {
                code.append(block);
                continue;
            }
            code.append("static void example").append(examples).append("() {\n");
            for (String line : block.split("\n")) {
                Matcher row = ANSWERED.matcher(line);
                boolean answered = row.matches();
                rows += answered ? 1 : 0;
                code.append(answered ? due(row.group(1), row.group(2)) : line).append('\n');
            }
            code.append("}\n");
            calls.append("example").append(examples).append("();\n");
            examples++;
        }
        code.append("public static void main(String[] args) {\n").append(calls).append("CHECK.end();\n}\n}\n");
        is("examples and rows with answers: " + examples + ", " + rows, examples >= 3 && rows >= 30);
        Path file = Files.writeString(made.resolve("Examples.java"), code);
        String path = System.getProperty("java.class.path");
        Shell compiled = Shell.run(ROOT, "javac", "-d", made.toString(), "-cp", path, file.toString());
        is("the page's code compiles: " + compiled.said, compiled.code == 0);
        Shell ran = Shell.run(ROOT, "java", "-cp", made + ":" + path, "Examples");
        is("the page's code answers as told: " + ran.said, ran.code == 0);
        is("all of it was run: " + ran.said, ran.said.contains("README.md: " + rows + " answers, 0 wrong"));
    }

    private static String due(String call, String answer) {
        return "CHECK.due(\"" + call.replace("\"", "'") + "\", " + call + ", " + answer + "L);";
    }

    private static void oneTestAlone(Path made) throws IOException, InterruptedException {
        Matcher command = Pattern.compile("(?m)^    (javac .*)$").matcher(readme);
        is("a command for one test", command.find());
        String elsewhere = command.group(1).replace("/tmp/blown", made.toString());
        Shell ran = Shell.run(ROOT, "bash", "-c", elsewhere);
        is("one test alone: " + ran.said, ran.code == 0 && ran.said.contains("RingsTest: ") && ran.said.contains(" 0 wrong"));
    }

    private static void linesOfTheText() {
        List<String> lines = new ArrayList<>();
        Matcher rows = Pattern.compile("(?m)^\\| `([a-z0-9 ]+;)` \\|").matcher(readme);
        while (rows.find()) {
            lines.add(rows.group(1));
        }
        CHECK.due("kinds of LINES", lines.size(), 3);
        BlownNext x = new BlownNext();
        CHECK.due("the page's LINES can be read", Check.tell(x, lines.get(0) + lines.get(0) + lines.get(1) + lines.get(2)), 4);
        CHECK.due("cool of the page's smith", x.smith(0, 1), 4);
        CHECK.due("burnt of the page", x.count(8), 2);
    }

    private static void allCalls() throws IOException {
        String source = Files.readString(ROOT.resolve("src/main/java/BlownNext.java"));
        Matcher faces = Pattern.compile("(?m)^    public (?:int|long) (\\w+)\\((.*)\\) \\{").matcher(source);
        int calls = 0;
        while (faces.find()) {
            String call = faces.group(1) + "(" + faces.group(2).replaceAll("\\b(int|long|boolean) ", "") + ")";
            is("the page names " + call, readme.contains("`" + call + "`"));
            calls++;
        }
        CHECK.due("calls of the face", calls, 42);
        Matcher named = Pattern.compile("`(\\w+\\([a-z, ]*\\))`").matcher(readme);
        Set<String> all = new TreeSet<>();
        while (named.find()) {
            all.add(named.group(1));
        }
        CHECK.due("calls that the page names: " + all, all.size(), calls);
    }

    private static void allTests() throws IOException {
        Set<String> there = new TreeSet<>();
        for (String name : Shell.files(ROOT.resolve("src/test/java"))) {
            if (name.endsWith("Test.java")) {
                there.add(name.substring(0, name.length() - ".java".length()));
            }
        }
        Set<String> told = new TreeSet<>();
        Matcher rows = Pattern.compile("(?m)^\\| (\\w+Test) \\|").matcher(readme);
        while (rows.find()) {
            told.add(rows.group(1));
        }
        is("the page's tests " + told + " are those that there are " + there, told.equals(there));
    }

    private static void filesAndCommands() {
        String[] named = {"../shared/DOC.md", "../shared/LANGUAGE.md", "../shared/tests", "src/main/java/BlownNext.java", "src/test/java"};
        for (String name : named) {
            is("the page names " + name + ", which is there", readme.contains("`" + name + "`") && Files.exists(ROOT.resolve(name)));
        }
        is("the page's command is .ci/run", readme.contains("\n    .ci/run\n"));
        is(".ci/run can be run", Files.isExecutable(ROOT.resolve(".ci/run")));
    }
}
