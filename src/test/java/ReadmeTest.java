import java.io.IOException;
import java.lang.reflect.InvocationTargetException;
import java.lang.reflect.Method;
import java.nio.file.Files;
import java.nio.file.Path;
import java.util.HashMap;
import java.util.Map;
import java.util.regex.Matcher;
import java.util.regex.Pattern;

/** The example in README.md: each call there answers the number at the head of its comment. */
public final class ReadmeTest {
    private static final Check check = new Check();
    private static final Pattern CALL =
        Pattern.compile("(?:int (\\w+) = )?tree\\.(\\w+)\\((.*?)\\); *// (-?\\d+)\\b.*");

    public static void main(String[] args) throws IOException {
        WorkTree tree = new WorkTree();
        Map<String, Integer> names = new HashMap<>();
        Map<String, Integer> callsOf = new HashMap<>();
        for (String line : Files.readAllLines(Path.of("README.md"))) {
            Matcher call = CALL.matcher(line);
            if (call.matches()) {
                long answer = answer(tree, call.group(2), numbers(call.group(3), names));
                String told = "README.md: " + call.group(2) + "(" + call.group(3) + ")";
                check.due(told, answer, Long.parseLong(call.group(4)));
                if (call.group(1) != null) {
                    names.put(call.group(1), (int) answer);
                }
                callsOf.merge(call.group(2), 1, Integer::sum);
            } else {
                check.holds("this line's answer can be read: " + line, !line.matches(".*\\btree\\..*"));
            }
        }
        for (Method method : WorkTree.class.getMethods()) {
            if (method.getDeclaringClass() == WorkTree.class) {
                check.holds("the example shows " + method.getName(), callsOf.containsKey(method.getName()));
            }
        }
        check.end();
    }

    private static Object[] numbers(String list, Map<String, Integer> names) {
        if (list.isEmpty()) {
            return new Object[0];
        }
        String[] words = list.split(", ");
        Object[] numbers = new Object[words.length];
        for (int i = 0; i < words.length; i++) {
            Integer named = names.get(words[i]);
            numbers[i] = named != null ? named : Integer.valueOf(words[i]);
        }
        return numbers;
    }

    private static long answer(WorkTree tree, String name, Object[] numbers) {
        for (Method method : WorkTree.class.getMethods()) {
            if (method.getName().equals(name) && method.getParameterCount() == numbers.length) {
                try {
                    return ((Number) method.invoke(tree, numbers)).longValue();
                } catch (IllegalAccessException | InvocationTargetException thrown) {
                    throw new IllegalStateException(name, thrown);
                }
            }
        }
        throw new IllegalStateException("no method " + name + " of " + numbers.length + " numbers");
    }
}
