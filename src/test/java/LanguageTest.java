import java.io.IOException;
import java.nio.file.Files;
import java.nio.file.Path;
import java.util.ArrayList;
import java.util.HashSet;
import java.util.LinkedHashMap;
import java.util.List;
import java.util.Map;
import java.util.Set;
import java.util.regex.Matcher;
import java.util.regex.Pattern;

/**
 * The rules of LANGUAGE.md that can be read off the program's text. It asks for a little more than
 * the rules where that is simpler to test and the program needs no more: one class, no while, no recursion.
 * The face (rules 1 and 5) is in FaceTest; that no call throws or fails to end (rule 7), in AnyArgumentsTest.
 */
public final class LanguageTest {
    private static final Check check = new Check();
    private static final Pattern METHOD = Pattern.compile("    (?:public|private)[^=;]* ?\\b(\\w+)\\((.*)\\) \\{");
    private static final Pattern CALLED = Pattern.compile("\\b(\\w+)\\(");

    public static void main(String[] args) throws IOException {
        String text = Files.readString(Path.of("src/main/java/WorkTree.java"));
        String code = withoutComments(text);
        // A text could hide a word from this test, or look like a comment.
        lacks(code, "no text and no character constant", "[\"']");
        words(code);
        objects(code);
        Map<String, List<String>> bodies = bodies(code);
        lengths(code, bodies);
        for (String method : bodies.keySet()) {
            check.holds("rules 8, 11: " + method + " does not recur and calls at most eight deep",
                depth(method, bodies, 0) <= 8);
        }
        check.end();
    }

    private static String withoutComments(String text) {
        return text.replaceAll("(?s)/\\*.*?\\*/", "").replaceAll("//[^\n]*", "");
    }

    private static void words(String code) {
        lacks(code, "one file without a package line", "\\bpackage\\b");
        lacks(code, "rule 2: no lambda, no method reference", "->|::");
        lacks(code, "rule 2: no classes inside", "\\b(interface|enum|record|extends|implements|super)\\b");
        check.due("rule 2: how many classes", code.split("\\bclass\\b", -1).length - 1, 1);
        lacks(code, "rule 3: no fraction", "\\b(double|float)\\b");
        lacks(code, "rule 4: no library but Math.min and Math.max",
            "\\b(?!Math\\.(min|max)\\()[A-Z][A-Za-z]*\\.|\\b(import|java|javax)\\b");
        lacks(code, "rule 3: no type but numbers and their rows", "\\b[A-Z]\\w*[a-z]\\w* +\\w+ *[=;,)]");
        lacks(code, "rule 5: no static initialiser block", "\\bstatic\\s*\\{");
        lacks(code, "rule 6: nothing thrown or caught", "\\b(throws?|try|catch|finally|synchronized|assert)\\b");
        lacks(code, "rule 6: no answer depends on an object", "\\b(instanceof|equals|hashCode|toString)\\b");
        lacks(code, "rule 9: every loop counts", "\\b(while|do)\\b");
        lacks(code, "rule 13", "\\b(volatile|native|System|Thread|Runtime)\\b");
    }

    private static void lacks(String code, String rule, String words) {
        Matcher found = Pattern.compile(words).matcher(code);
        boolean seen = found.find();
        check.holds(rule + (seen ? ", found: " + found.group() : ""), !seen);
    }

    /** Rule 12: rows are made with the object alone, so what a run makes does not grow with its calls. */
    private static void objects(String code) {
        for (String line : code.split("\n")) {
            if (line.matches(".*\\bnew\\b.*")) {
                check.holds("rule 12: made with the object: " + line.trim(),
                    line.matches("    private final (int|boolean)\\[\\] \\w+ = new (int|boolean)\\[[A-Z_]+\\];"));
            }
        }
        lacks(code, "rule 12: no row is written out or copied", "\\]\\s*\\w*\\s*=\\s*\\{|\\bclone\\b");
    }

    /** The lines of each method, the constructor among them, by its name. */
    private static Map<String, List<String>> bodies(String code) {
        Map<String, List<String>> bodies = new LinkedHashMap<>();
        List<String> body = null;
        for (String line : code.split("\n")) {
            Matcher head = METHOD.matcher(line);
            if (head.matches()) {
                body = new ArrayList<>();
                check.holds("one method is named " + head.group(1), bodies.put(head.group(1), body) == null);
                check.holds("rule 11: at most seven parameters: " + line.trim(), head.group(2).split(",").length <= 7);
            } else if (line.equals("    }")) {
                body = null;
            } else if (body != null) {
                body.add(line);
            }
        }
        // Ten of the face, constructor included: were they not found, the other checks would see nothing.
        check.holds("the methods are found: " + bodies.keySet(), bodies.keySet().containsAll(Set.of("WorkTree",
            "add", "refuse", "best", "fork", "due", "median", "ancestor", "look", "blocks")));
        return bodies;
    }

    private static void lengths(String code, Map<String, List<String>> bodies) {
        for (Map.Entry<String, List<String>> method : bodies.entrySet()) {
            check.holds("rule 11: " + method.getKey() + " has at most sixty lines", method.getValue().size() <= 60);
        }
        Matcher field = Pattern.compile("(?m)^    private (?!static)[^(\n]*;$").matcher(code);
        check.holds("rule 11: at most twenty fields", field.results().count() <= 20);
        for (String line : bodies.get("WorkTree")) {
            check.holds("rule 12: the constructor calls nothing: " + line.trim(), !line.contains("("));
        }
    }

    /** How many calls stand open at most; a method that recurs is met again and again, until this is above eight. */
    private static int depth(String method, Map<String, List<String>> bodies, int open) {
        if (open > 8) {
            return open;
        }
        int deepest = open + 1;
        Set<String> called = new HashSet<>();
        for (String line : bodies.get(method)) {
            Matcher name = CALLED.matcher(line);
            while (name.find()) {
                called.add(name.group(1));
            }
        }
        for (String name : called) {
            if (bodies.containsKey(name)) {
                deepest = Math.max(deepest, depth(name, bodies, open + 1));
            }
        }
        return deepest;
    }
}
