import java.io.IOException;
import java.nio.file.Files;
import java.nio.file.Path;
import java.util.ArrayList;
import java.util.List;
import java.util.Set;
import java.util.TreeSet;
import java.util.regex.Matcher;
import java.util.regex.Pattern;

/** The source of the class: its face as the document writes it, and the rules of LANGUAGE.md that words can show. */
public final class SourceTest {
    private static final Path DOCUMENT = Path.of("../shared/DOC.md");
    private static final Path SOURCE = Path.of("src/main/java/RotorBench.java");
    private static final Pattern PUBLIC = Pattern.compile("public (?!final class)[^;{]*");
    private static final Pattern METHOD = Pattern.compile("(?m)^ +[\\w\\[\\] ]*?(\\w+)\\(([^)]*)\\)[\\w\\s,.]*\\{$");
    private static final Pattern FIELD = Pattern.compile(
            "(?m)^ {4}(?: {4})?(?:private )?(?:final )?(?!static|return|throw)[\\w\\[\\]]+ \\w+(?: =.*)?;$");
    private static final Pattern LIBRARY_CALL = Pattern.compile("\\b([A-Z]\\w*\\.\\w+)\\(");
    private static final Pattern LIBRARY = Pattern.compile(
            "System\\.arraycopy|Arrays\\.(copyOf|copyOfRange|fill)|List\\.of|(Math|Integer|Long)\\.(?!\\w*Exact$)\\w+");
    private static final Set<String> IMPORTS = Set.of("java.util.ArrayList", "java.util.Arrays", "java.util.Iterator",
            "java.util.List", "java.util.NoSuchElementException");
    private static final Set<String> CONTROL = Set.of("if", "for", "while", "switch");
    private static final int MOST_LINES = 60;
    private static final int MOST_PARAMETERS = 7;
    private static final int MOST_CLASSES = 12;
    private static final int MOST_FIELDS = 20;
    private static final int MOST_DEEP = 8;
    private static final Check CHECK = new Check("SourceTest");

    public static void main(String[] args) throws IOException {
        String source = Files.readString(SOURCE);
        String code = withoutComments(source);
        String words = code.replaceAll("\"[^\"\\n]*\"", "\"\"");
        faceAsTheDocumentWritesIt(code, Files.readString(DOCUMENT));
        headingsOfTheFace(source);
        importsAndLibrary(words);
        wordsThatAreNotThere(words);
        throwsAreWritten(code);
        staticFieldsAreFinal(words);
        classesAndTheirFields(words);
        methodsAreShort(words);
        callsAreFewDeep(words);
        CHECK.end();
    }

    private static String withoutComments(String source) {
        return source.replaceAll("(?s)/\\*.*?\\*/", "").replaceAll("//[^\\n]*", "");
    }

    private static List<String> all(Pattern pattern, String text, int group) {
        List<String> found = new ArrayList<>();
        Matcher matcher = pattern.matcher(text);
        while (matcher.find()) {
            found.add(matcher.group(group));
        }
        return found;
    }

    private static void faceAsTheDocumentWritesIt(String code, String document) {
        String block = document.substring(document.indexOf("```java"), document.indexOf("## Terms"));
        Set<String> due = declarations(block);
        Set<String> got = declarations(code);
        CHECK.is("declarations in the document", due.size(), 28);
        for (String one : due) {
            CHECK.is("the class says " + one, got.contains(one), true);
        }
        got.removeAll(due);
        CHECK.is("the class says no more, but " + got, got.isEmpty(), true);
    }

    private static Set<String> declarations(String text) {
        Set<String> flat = new TreeSet<>();
        for (String one : all(PUBLIC, text, 0)) {
            flat.add(one.replace("java.util.", "").replaceAll("\\s+", " ").trim());
        }
        return flat;
    }

    /**
     * "Ahead of the calls `key`, `back`, `image`, `at`, `undo`, `period`, `fixed` the interface says: ---- signs.",
     * "Ahead of the calls `open`, `close`, `logged`, `replay`, `count` the interface says: ---- messages."
     */
    private static void headingsOfTheFace(String source) {
        int signs = source.indexOf("---- signs");
        int messages = source.indexOf("---- messages");
        CHECK.is("both headings are there", signs > 0 && messages > signs, true);
        for (String name : List.of("contacts", "wire", "set")) {
            isBetween(source, name, 0, signs);
        }
        for (String name : List.of("key", "back", "image", "at", "undo", "period", "fixed")) {
            isBetween(source, name, signs, messages);
        }
        for (String name : List.of("open", "close", "logged", "replay", "count")) {
            isBetween(source, name, messages, source.length());
        }
    }

    private static void isBetween(String source, String name, int from, int to) {
        int at = source.indexOf("public int " + name + "(");
        CHECK.is(name + " stands behind its heading", at > from && at < to, true);
    }

    /** Rules 3 and 4: no library but what is listed. */
    private static void importsAndLibrary(String words) {
        for (String one : all(Pattern.compile("(?m)^import (.*);$"), words, 1)) {
            CHECK.is("import of " + one, IMPORTS.contains(one), true);
        }
        for (String call : all(LIBRARY_CALL, words, 1)) {
            CHECK.is(call + " is of the library that is listed", LIBRARY.matcher(call).matches(), true);
        }
    }

    /** Rules 1, 2, 3, 5, 6, 10 and 13: what the language has, but the class may not use. */
    private static void wordsThatAreNotThere(String words) {
        for (String word : List.of("package", "protected", "synchronized", "assert", "finally", "Object", "hashCode",
                "getMessage", "Thread", "Random")) {
            CHECK.is("there is no " + word, Pattern.compile("\\b" + word + "\\b").matcher(words).find(), false);
        }
        for (String sign : List.of("::", "\" +", "+ \"", "static {")) {
            CHECK.is("there is no " + sign, words.contains(sign), false);
        }
        boolean lambda = Pattern.compile("(?m)^(?!\\s*(case|default)\\b).*->").matcher(words).find();
        CHECK.is("there is a lambda", lambda, false);
    }

    /** Rule 6: an exception is thrown with a written text or none. */
    private static void throwsAreWritten(String code) {
        int due = all(Pattern.compile("\\bthrow\\b"), code, 0).size();
        String written = "throw new (NoSuchElement|IllegalArgument|IllegalState)Exception\\((\"[^\"]*\")?\\);";
        CHECK.is("throws with a written text", all(Pattern.compile(written), code, 0).size(), due);
    }

    /** Rule 5: static fields are final. */
    private static void staticFieldsAreFinal(String words) {
        for (String line : words.split("\n")) {
            if (line.contains("static ") && line.contains(";")) {
                CHECK.is("final: " + line.trim(), line.contains("static final "), true);
            }
        }
    }

    /** Rule 11: at most some twelve classes, with some twenty fields each beside the constants. */
    private static void classesAndTheirFields(String words) {
        String[] classes = words.split("\\bclass ");
        CHECK.is("classes", classes.length - 1 <= MOST_CLASSES, true);
        for (String one : classes) {
            CHECK.is("fields of " + one.split(" ")[0], all(FIELD, one, 0).size() <= MOST_FIELDS, true);
        }
    }

    /** A method's name and what stands in it, for each method and constructor. */
    private static List<String> bodies(String words) {
        List<String> bodies = new ArrayList<>();
        Matcher method = METHOD.matcher(words);
        while (method.find()) {
            if (!CONTROL.contains(method.group(1))) {
                bodies.add(method.group(1) + words.substring(method.end(), endOf(words, method.end())));
            }
        }
        return bodies;
    }

    private static int endOf(String words, int from) {
        int deep = 1;
        int at = from;
        while (deep > 0) {
            deep += words.charAt(at) == '{' ? 1 : words.charAt(at) == '}' ? -1 : 0;
            at++;
        }
        return at;
    }

    private static String nameOf(String body) {
        return body.split("\\W")[0];
    }

    /** Rules 6 and 11: at most seven parameters and some sixty lines, and no throw in a constructor. */
    private static void methodsAreShort(String words) {
        List<String> bodies = bodies(words);
        CHECK.is("methods are found", bodies.size() > 26, true);
        for (String body : bodies) {
            boolean constructor = Character.isUpperCase(body.charAt(0));
            CHECK.is("lines of " + nameOf(body), body.split("\n").length <= MOST_LINES, true);
            CHECK.is("a throw in the constructor " + nameOf(body), constructor && body.contains("throw "), false);
        }
        for (String parameters : all(METHOD, words, 2)) {
            CHECK.is("parameters " + parameters, parameters.split(",").length <= MOST_PARAMETERS, true);
        }
    }

    /** Rule 11: calls go at most eight deep. Methods of one name are taken for one, so that this errs to the strict side. */
    private static void callsAreFewDeep(String words) {
        List<String> bodies = bodies(LIBRARY_CALL.matcher(words).replaceAll("("));
        for (String body : bodies) {
            int deep = deep(nameOf(body), bodies, new TreeSet<>());
            CHECK.is(nameOf(body) + " goes " + deep + " deep", deep <= MOST_DEEP, true);
        }
    }

    private static int deep(String name, List<String> bodies, Set<String> above) {
        int deepest = 0;
        above.add(name);
        for (String body : bodies) {
            if (nameOf(body).equals(name)) {
                for (String called : new TreeSet<>(all(Pattern.compile("(\\w+)\\("), body.substring(name.length()), 1))) {
                    deepest = above.contains(called) ? deepest : Math.max(deepest, deep(called, bodies, above));
                }
            }
        }
        above.remove(name);
        return deepest + 1;
    }
}
