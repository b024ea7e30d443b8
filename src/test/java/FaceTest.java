import java.lang.reflect.Constructor;
import java.lang.reflect.Field;
import java.lang.reflect.Method;
import java.lang.reflect.Modifier;
import java.util.Set;
import java.util.TreeSet;

/** The public face is the document's, and nothing beside it can be seen from outside (LANGUAGE.md, rules 1 and 5). */
public final class FaceTest {
    private static final Check check = new Check();

    public static void main(String[] args) {
        int modifiers = WorkTree.class.getModifiers();
        check.holds("the class is public and final", Modifier.isPublic(modifiers) && Modifier.isFinal(modifiers));
        check.holds("the class has no package", WorkTree.class.getPackageName().isEmpty());
        constructors();
        methods();
        fields();
        check.end();
    }

    private static void constructors() {
        Constructor<?>[] all = WorkTree.class.getDeclaredConstructors();
        check.due("how many constructors", all.length, 1);
        check.holds("it is public", Modifier.isPublic(all[0].getModifiers()));
        check.due("its parameters", all[0].getParameterCount(), 0);
    }

    private static void methods() {
        Set<String> due = new TreeSet<>(Set.of(
            "public int WorkTree.add(int,int,int)",
            "public int WorkTree.refuse(int)",
            "public int WorkTree.best()",
            "public int WorkTree.fork(int,int)",
            "public int WorkTree.due(int)",
            "public int WorkTree.median(int)",
            "public int WorkTree.ancestor(int,int)",
            "public long WorkTree.look(int,int)",
            "public int WorkTree.blocks()"));
        Set<String> seen = new TreeSet<>();
        Set<String> publicNames = new TreeSet<>();
        for (Method method : WorkTree.class.getDeclaredMethods()) {
            if (!Modifier.isPrivate(method.getModifiers())) {
                seen.add(method.toString());
                publicNames.add(method.getName());
            }
        }
        check.holds("the methods are " + due + ", seen: " + seen, due.equals(seen));
        for (Method method : WorkTree.class.getDeclaredMethods()) {
            if (Modifier.isPrivate(method.getModifiers())) {
                check.holds("no private method is named " + method.getName(), !publicNames.contains(method.getName()));
            }
        }
    }

    private static void fields() {
        Set<String> seen = new TreeSet<>();
        for (Field field : WorkTree.class.getDeclaredFields()) {
            int modifiers = field.getModifiers();
            if (!Modifier.isPrivate(modifiers)) {
                seen.add(field.toString());
            }
            if (Modifier.isStatic(modifiers)) {
                check.holds("the static field " + field.getName() + " is final", Modifier.isFinal(modifiers));
            }
        }
        Set<String> due = new TreeSet<>(Set.of(
            "public static final int WorkTree.REFUSED",
            "public static final int WorkTree.NONE",
            "public static final int WorkTree.FULL"));
        check.holds("the constants are " + due + ", seen: " + seen, due.equals(seen));
    }
}
