import java.io.IOException;
import java.nio.file.DirectoryStream;
import java.nio.file.Files;
import java.nio.file.Path;
import java.util.Arrays;
import java.util.LinkedHashMap;
import java.util.Map;
import java.util.regex.Matcher;
import java.util.regex.Pattern;

/**
 * Every sentence of the document, from 'Terms' to promise 27, is quoted above a test, and what is quoted is the
 * document's own text. A promise is quoted by the tests whose names begin with its call; 'Terms' by any test.
 */
public final class DocumentTest {
    private static final Path DOCUMENT = Path.of("../shared/DOC.md");
    private static final Path TESTS = Path.of("src/test/java");
    private static final Pattern HEADING = Pattern.compile("(?m)^## (?:Promise \\d+: )?(.*)$");
    private static final Pattern SIGNATURE = Pattern.compile("^ *`[^`]*`:");
    private static final Pattern TEST = Pattern.compile("/\\*\\*((?:[^*]|\\*(?!/))*)\\*/\\s*private static void (\\w+)\\(");
    private static final Pattern QUOTE = Pattern.compile("\"([^\"]+)\"");
    private static final Check CHECK = new Check("DocumentTest");

    private static final class Section {
        final String text;
        final boolean[] quoted;

        Section(String text) {
            this.text = text;
            this.quoted = new boolean[text.length()];
        }

        boolean quote(String part) {
            int from = text.indexOf(part);
            boolean found = from >= 0;
            while (from >= 0) {
                Arrays.fill(quoted, from, from + part.length(), true);
                from = text.indexOf(part, from + 1);
            }
            return found;
        }

        String leftOver() {
            StringBuilder left = new StringBuilder();
            for (int i = 0; i < quoted.length; i++) {
                left.append(quoted[i] ? ' ' : text.charAt(i));
            }
            return left.toString().replaceAll("[^\\w]+", " ").trim();
        }
    }

    public static void main(String[] args) throws IOException {
        Map<String, Section> sections = sections(Files.readString(DOCUMENT));
        CHECK.is("headings of the document: its parts and 27 promises", sections.size(), 4 + 27);
        try (DirectoryStream<Path> files = Files.newDirectoryStream(TESTS, "*Test.java")) {
            for (Path file : files) {
                quotes(file.getFileName().toString(), Files.readString(file), sections);
            }
        }
        for (Map.Entry<String, Section> one : sections.entrySet()) {
            String left = one.getValue().leftOver();
            CHECK.is("'" + one.getKey() + "' is tested, but for: " + left, isFree(one.getKey()) || left.isEmpty(), true);
        }
        CHECK.end();
    }

    /** These parts tell what the class is, its face (which FaceTest holds) and what is not promised. */
    private static boolean isFree(String name) {
        return name.equals("What it is") || name.equals("The public face") || name.equals("Not promised");
    }

    private static Map<String, Section> sections(String document) {
        Map<String, Section> sections = new LinkedHashMap<>();
        Matcher heading = HEADING.matcher(document);
        boolean more = heading.find();
        while (more) {
            String name = heading.group(1).equals("A new object") ? "newObject" : heading.group(1);
            int from = heading.end();
            more = heading.find();
            String text = flat(document.substring(from, more ? heading.start() : document.length()).replaceAll("```\\w*", " "));
            sections.put(name, new Section(SIGNATURE.matcher(text).replaceFirst("")));
        }
        return sections;
    }

    private static String flat(String text) {
        return text.replaceAll("\\s+", " ");
    }

    private static void quotes(String file, String source, Map<String, Section> sections) {
        Matcher test = TEST.matcher(source);
        while (test.find()) {
            String comment = flat(test.group(1).replaceAll("\\n\\s*\\*", " "));
            Matcher quote = QUOTE.matcher(comment);
            while (quote.find()) {
                for (String part : quote.group(1).split("\\[\\.\\.\\]")) {
                    boolean found = quote(part.trim(), test.group(2), sections);
                    CHECK.is(file + ", " + test.group(2) + ": the document says '" + part.trim() + "'", found, true);
                }
            }
        }
    }

    private static boolean quote(String part, String test, Map<String, Section> sections) {
        boolean found = false;
        for (Map.Entry<String, Section> one : sections.entrySet()) {
            boolean its = one.getKey().contains(" ") || one.getKey().equals("Terms") || isOf(test, one.getKey());
            found |= its && one.getValue().quote(part);
        }
        return found;
    }

    /** pinsRanges is a test of pins, not of pin. */
    private static boolean isOf(String test, String call) {
        return test.startsWith(call)
                && (test.length() == call.length() || Character.isUpperCase(test.charAt(call.length())));
    }
}
