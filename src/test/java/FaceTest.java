import java.lang.reflect.Constructor;
import java.lang.reflect.Field;
import java.lang.reflect.Method;
import java.lang.reflect.Modifier;
import java.util.Set;
import java.util.TreeSet;

/** The public face: the constants and the members of the document, and no others. */
public final class FaceTest {
    public static void main(String[] args) {
        Checker checker = new Checker();
        checker.due("REFUSED", AlgolJudge.REFUSED, -1);
        checker.due("NONE", AlgolJudge.NONE, -2);
        checker.due("FULL", AlgolJudge.FULL, -3);
        Set<String> face = new TreeSet<>();
        for (Field field : AlgolJudge.class.getDeclaredFields()) {
            if (!Modifier.isPrivate(field.getModifiers())) {
                face.add(field.getName());
            }
        }
        for (Method method : AlgolJudge.class.getDeclaredMethods()) {
            if (!Modifier.isPrivate(method.getModifiers())) {
                face.add(method.getName() + method.getParameterCount() + method.getReturnType());
            }
        }
        for (Constructor<?> constructor : AlgolJudge.class.getDeclaredConstructors()) {
            face.add("new" + constructor.getParameterCount());
        }
        Set<String> due = new TreeSet<>(Set.of("REFUSED", "NONE", "FULL", "new0", "feed5int", "end1int",
            "judge0int", "names0int", "tell2int", "means1int"));
        checker.due("members " + face, face.equals(due) ? 0 : 1, 0);
        checker.due("public and final", AlgolJudge.class.getModifiers(), Modifier.PUBLIC | Modifier.FINAL);
        checker.finish();
    }
}
