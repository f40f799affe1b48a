import java.io.IOException;
import java.io.UncheckedIOException;
import java.nio.file.Files;
import java.nio.file.Path;
import java.util.ArrayList;
import java.util.List;
import java.util.Set;
import java.util.TreeSet;
import java.util.regex.Matcher;
import java.util.regex.Pattern;

/** README.md: its blocks in their sequence, and what its text names. */
final class Readme {
    static final Path FILE = Path.of("README.md");

    /** One block: what it is (sh, java, text), the line ahead of it, and its lines without what indents them. */
    static final class Block {
        final String what;
        final String ahead;
        final List<String> lines = new ArrayList<>();

        Block(String what, String ahead) {
            this.what = what;
            this.ahead = ahead;
        }

        String text() {
            return String.join("\n", lines) + "\n";
        }
    }

    private Readme() {
    }

    static List<Block> blocks() {
        List<Block> all = new ArrayList<>();
        Block open = null;
        int indent = 0;
        String ahead = "";
        for (String line : lines()) {
            boolean fence = line.trim().startsWith("```");
            if (fence && open == null) {
                indent = line.indexOf('`');
                open = new Block(line.trim().substring(3), ahead);
                all.add(open);
            } else if (fence) {
                open = null;
            } else if (open != null) {
                open.lines.add(line.substring(Math.min(indent, line.length())));
            } else if (!line.isBlank()) {
                ahead = line.trim();
            }
        }
        return all;
    }

    /** All that this finds in the page, just the part in brackets. */
    static Set<String> named(String pattern) {
        Set<String> all = new TreeSet<>();
        Matcher m = Pattern.compile(pattern).matcher(String.join("\n", lines()));
        while (m.find()) {
            all.add(m.group(1));
        }
        return all;
    }

    private static List<String> lines() {
        try {
            return Files.readAllLines(FILE);
        } catch (IOException e) {
            throw new UncheckedIOException("README.md is not where it should be", e);
        }
    }
}
