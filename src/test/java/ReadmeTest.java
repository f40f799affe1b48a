import java.io.File;
import java.io.IOException;
import java.lang.reflect.Method;
import java.lang.reflect.Modifier;
import java.nio.charset.StandardCharsets;
import java.nio.file.Files;
import java.nio.file.Path;
import java.util.Comparator;
import java.util.List;
import java.util.Set;
import java.util.TreeSet;
import java.util.stream.Collectors;
import java.util.stream.Stream;

/** What README.md says holds: each of its steps is followed in a new folder, and its tables leave nothing out. */
final class ReadmeTest {
    private static final Path SHARED = Path.of("..", "shared");
    private static final Path TESTS = Path.of("src", "test", "java");
    // It runs this test: who followed it here would never come to an end.
    private static final String ALL_TESTS = ".ci/run\n";

    private final Check c = new Check("ReadmeTest");
    private final Path top;

    private ReadmeTest(Path top) {
        this.top = top;
    }

    public static void main(String[] args) throws IOException, InterruptedException {
        Path folder = Files.createTempDirectory("readme");
        ReadmeTest t = new ReadmeTest(folder.resolve("main"));
        try {
            t.checkout(folder);
            t.steps();
            t.everyMethodIsNamed();
            t.everyTestIsNamed();
        } finally {
            remove(folder);
        }
        t.c.end();
    }

    /** A folder as one has it who begins: what is kept here, with ../shared beside it, and nothing compiled. */
    private void checkout(Path folder) throws IOException {
        Files.createDirectory(top);
        Files.createSymbolicLink(folder.resolve("shared"), SHARED.toRealPath());
        for (Path part : List.of(Path.of("src"), Path.of(".ci"), Readme.FILE)) {
            try (Stream<Path> all = Files.walk(part)) {
                for (Path one : all.collect(Collectors.toList())) {
                    Files.copy(one, top.resolve(one.toString()));
                }
            }
        }
    }

    private static void remove(Path folder) throws IOException {
        try (Stream<Path> all = Files.walk(folder)) {
            for (Path one : all.sorted(Comparator.reverseOrder()).collect(Collectors.toList())) {
                Files.delete(one);
            }
        }
    }

    private void steps() throws IOException, InterruptedException {
        String printed = "";
        int followed = 0;
        for (Readme.Block block : Readme.blocks()) {
            switch (block.what) {
                case "java":
                    save(block);
                    break;
                case "text":
                    c.same("what is printed", printed, block.text());
                    break;
                case "sh":
                    followed++;
                    printed = block.text().equals(ALL_TESTS) ? allTests() : shell(block.text());
                    break;
                default:
                    c.same("a block of another kind", block.what, "sh, java or text");
            }
        }
        c.same("how many steps there are for a shell", followed, 5);
    }

    /** The line ahead of the block names, between `, the file that it is saved as. */
    private void save(Readme.Block block) throws IOException {
        String[] parts = block.ahead.split("`");
        c.same("names of files in: " + block.ahead, parts.length, 3);
        if (parts.length == 3) {
            Files.writeString(top.resolve(parts[1]), block.text());
        }
    }

    private String allTests() {
        c.same(".ci/run can be run", Files.isExecutable(top.resolve(".ci/run")), true);
        return "";
    }

    private String shell(String commands) throws IOException, InterruptedException {
        Process process = new ProcessBuilder("sh", "-e", "-c", commands).directory(top.toFile())
            .redirectErrorStream(true).redirectInput(new File("/dev/null")).start();
        String printed = new String(process.getInputStream().readAllBytes(), StandardCharsets.UTF_8);
        int code = process.waitFor();
        c.same("the exit code of these, which printed " + printed.trim() + ":\n" + commands, code, 0);
        return printed;
    }

    private void everyMethodIsNamed() {
        Set<String> face = new TreeSet<>();
        for (Method m : Risingbag.class.getDeclaredMethods()) {
            if (Modifier.isPublic(m.getModifiers())) {
                face.add(m.getName());
            }
        }
        c.same("the methods that the page names", Readme.named("`(\\w+)\\(\\)`"), face);
    }

    private void everyTestIsNamed() throws IOException {
        Set<String> tests = new TreeSet<>();
        try (Stream<Path> all = Files.list(TESTS)) {
            all.map(file -> file.getFileName().toString()).filter(name -> name.endsWith("Test.java"))
                .forEach(name -> tests.add(name.replace(".java", "")));
        }
        c.same("the tests in the table", Readme.named("(?m)^\\| `(\\w+)` \\|"), tests);
    }
}
