import java.io.File;
import java.io.IOException;
import java.nio.charset.StandardCharsets;
import java.nio.file.Files;
import java.nio.file.Path;
import java.util.Comparator;
import java.util.List;
import java.util.stream.Stream;

/** A command that ran to its end: its exit code and all that it printed. */
final class Shell {
    final int code;
    final String said;

    private Shell(int code, String said) {
        this.code = code;
        this.said = said;
    }

    static Shell run(Path in, String... command) throws IOException, InterruptedException {
        ProcessBuilder builder = new ProcessBuilder(command).directory(in.toFile()).redirectErrorStream(true);
        builder.redirectInput(new File("/dev/null"));
        Process process = builder.start();
        String said = new String(process.getInputStream().readAllBytes(), StandardCharsets.UTF_8);
        return new Shell(process.waitFor(), said);
    }

    /** The files under a directory, by their paths in it, without those under names that begin with ".git". */
    static List<String> files(Path under) throws IOException {
        try (Stream<Path> all = Files.walk(under)) {
            return all.filter(Files::isRegularFile).map(p -> under.relativize(p).toString())
                .filter(name -> !name.startsWith(".git")).sorted().toList();
        }
    }

    static void remove(Path tree) throws IOException {
        List<Path> deepestFirst;
        try (Stream<Path> all = Files.walk(tree)) {
            deepestFirst = all.sorted(Comparator.reverseOrder()).toList();
        }
        for (Path path : deepestFirst) {
            Files.delete(path);
        }
    }
}
