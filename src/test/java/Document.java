import java.io.IOException;
import java.io.UncheckedIOException;
import java.nio.file.Files;
import java.nio.file.Path;
import java.util.Set;
import java.util.TreeSet;

/** The document, sentence by sentence: that of its description below 0, that of a promise below its number. */
final class Document {
    private static final Path FILE = Path.of("..", "shared", "DOC.md");

    private Document() {
    }

    /** Each sentence that binds, as "6: Returns how many THINGS it has then; -9 if it has 24." */
    static Set<String> sentences() {
        Set<String> all = new TreeSet<>();
        int promise = -1;
        for (String line : lines()) {
            if (line.startsWith("# ") || line.startsWith("## The public") || line.startsWith("## Not promised")) {
                promise = -1;
            } else if (line.startsWith("## What it is") || line.startsWith("## Description")) {
                promise = 0;
            } else if (line.startsWith("## Promise ")) {
                promise = Integer.parseInt(line.substring(11, line.indexOf(':')));
            } else if (promise == 0) {
                addDescription(all, line.trim());
            } else if (promise > 0 && binds(line)) {
                all.add(promise + ": " + line);
            }
        }
        return all;
    }

    private static void addDescription(Set<String> all, String line) {
        if (line.isEmpty() || line.matches("\\d\\. \\w+") || line.startsWith("Rows of numbers")
            || line.startsWith("The constructor and the methods")) {
            return;
        }
        for (String sentence : line.split("(?<=\\.) (?=[-A-Z])")) {
            all.add("0: " + sentence);
        }
    }

    /** A signature and a section's name bind nothing that a call could show. */
    private static boolean binds(String line) {
        return !line.isBlank() && !line.startsWith("`") && !line.startsWith("----");
    }

    private static Iterable<String> lines() {
        try {
            return Files.readAllLines(FILE);
        } catch (IOException e) {
            throw new UncheckedIOException("the document is not where it should be", e);
        }
    }
}
