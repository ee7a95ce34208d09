import java.lang.reflect.Constructor;
import java.lang.reflect.Field;
import java.lang.reflect.Method;
import java.lang.reflect.Modifier;
import java.util.Set;
import java.util.TreeSet;

/** The face of the class: what the document names, and nothing beside it. */
public final class FaceTests {
    public static void main(String[] args) {
        Check check = new Check("face");
        Class<?> type = SummedParents.class;
        check.due("public final class", type.getModifiers(), Modifier.PUBLIC | Modifier.FINAL);
        check.due("INVALID_ARGUMENT", SummedParents.INVALID_ARGUMENT, -1000001);
        check.due("NOT_POSSIBLE", SummedParents.NOT_POSSIBLE, -1000002);
        check.due("LIMIT_REACHED", SummedParents.LIMIT_REACHED, -1000003);
        check.due("NOT_FOUND", SummedParents.NOT_FOUND, -1000004);

        Set<String> members = new TreeSet<>();
        for (Constructor<?> constructor : type.getDeclaredConstructors()) {
            if (!Modifier.isPrivate(constructor.getModifiers())) {
                members.add("new/" + constructor.getParameterCount());
            }
        }
        Set<String> open = new TreeSet<>();
        for (Method method : type.getDeclaredMethods()) {
            if (method.isSynthetic()) {
                continue;
            }
            if (Modifier.isPrivate(method.getModifiers())) {
                members.add("private " + method.getName());
                continue;
            }
            open.add(method.getName());
            check.due(method + " gives an int", method.getReturnType() == int.class ? 1 : 0, 1);
            check.due(method + " is public and no more", method.getModifiers(), Modifier.PUBLIC);
            members.add(method.getName() + "/" + method.getParameterCount());
        }
        for (String name : open) {
            check.due("a private method named " + name, members.contains("private " + name) ? 1 : 0, 0);
        }
        members.removeIf(each -> each.startsWith("private "));
        for (Field field : type.getDeclaredFields()) {
            if (!Modifier.isPrivate(field.getModifiers())) {
                members.add(field.getName());
            }
            if (Modifier.isStatic(field.getModifiers())) {
                check.due(field + " is final", Modifier.isFinal(field.getModifiers()) ? 1 : 0, 1);
            }
        }
        check.due("members", members.toString(), new TreeSet<>(Set.of("new/0",
                "INVALID_ARGUMENT", "NOT_POSSIBLE", "LIMIT_REACHED", "NOT_FOUND",
                "write/3", "mishap/1", "rot/4", "read/3", "from/3", "way/4", "content/3", "mend/2",
                "scrub/0", "leaves/2", "free/1", "back/1", "rootOf/2", "unlike/2", "count/1",
                "undo/0", "type/1", "clearText/0", "fault/1", "play/0")).toString());
        check.end();
    }
}
