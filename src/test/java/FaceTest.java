import java.lang.reflect.Constructor;
import java.lang.reflect.Field;
import java.lang.reflect.Method;
import java.lang.reflect.Modifier;
import java.util.Set;
import java.util.TreeSet;

/** The public face: the document's constructor and methods, and nothing else that can be seen. */
public final class FaceTest {
    private static final Set<String> FACE = Set.of(
        "InsertMarks(int)",
        "int cls(int,int,boolean)",
        "int insert(int,int,int)",
        "int mark(int,int,int)",
        "int close()",
        "int flush()",
        "int cancel(int)",
        "int placed(int,int,int)",
        "int about(int,int)",
        "int held(int)",
        "int used(int,int)",
        "int seen(int,int,int)",
        "int count(int)");

    public static void main(String[] args) {
        Set<String> seen = visibleMembers();
        if (!seen.equals(FACE) || !Modifier.isFinal(InsertMarks.class.getModifiers())) {
            System.out.println("the face is " + seen + ", due is " + new TreeSet<>(FACE));
            System.exit(1);
        }
    }

    private static Set<String> visibleMembers() {
        Set<String> seen = new TreeSet<>();
        for (Constructor<?> c : InsertMarks.class.getDeclaredConstructors()) {
            if (!Modifier.isPrivate(c.getModifiers())) {
                seen.add("InsertMarks(" + names(c.getParameterTypes()) + ")");
            }
        }
        for (Method m : InsertMarks.class.getDeclaredMethods()) {
            if (!Modifier.isPrivate(m.getModifiers())) {
                seen.add(m.getReturnType() + " " + m.getName() + "(" + names(m.getParameterTypes()) + ")");
            }
        }
        for (Field f : InsertMarks.class.getDeclaredFields()) {
            if (!Modifier.isPrivate(f.getModifiers())) {
                seen.add("field " + f.getName());
            }
        }
        return seen;
    }

    private static String names(Class<?>[] types) {
        StringBuilder text = new StringBuilder();
        for (Class<?> type : types) {
            text.append(text.length() == 0 ? "" : ",").append(type.getName());
        }
        return text.toString();
    }
}
