import java.lang.reflect.Constructor;
import java.lang.reflect.Field;
import java.lang.reflect.Member;
import java.lang.reflect.Method;
import java.lang.reflect.Modifier;
import java.util.Set;
import java.util.TreeSet;

/** The public face is the document's, and nothing beside it can be seen from outside. */
public final class FaceTest {
    private static final Set<String> FACE = Set.of(
            "field int NONE", "constructor 0",
            "int feed 5", "int end 1", "int set 2", "int clear 0", "int decode 0", "int frame 2", "int band 3",
            "int steps 2", "int factor 3", "int pcm 2", "int sum 3", "int memory 2", "int count 1");

    public static void main(String[] args) {
        Due due = new Due("FaceTest");
        Set<String> seen = new TreeSet<>();
        for (Field field : SoundBench.class.getDeclaredFields()) {
            if (isVisible(field)) {
                seen.add("field " + field.getType() + " " + field.getName());
            }
            due.holds(field.getName() + " is final or of the object",
                    !Modifier.isStatic(field.getModifiers()) || Modifier.isFinal(field.getModifiers()));
        }
        for (Constructor<?> constructor : SoundBench.class.getDeclaredConstructors()) {
            if (isVisible(constructor)) {
                seen.add("constructor " + constructor.getParameterCount());
            }
        }
        for (Method method : SoundBench.class.getDeclaredMethods()) {
            if (isVisible(method)) {
                seen.add(method.getReturnType() + " " + method.getName() + " " + method.getParameterCount());
            }
        }
        due.same("the face", seen.toString(), new TreeSet<>(FACE).toString());
        due.holds("public and final", SoundBench.class.getModifiers() == (Modifier.PUBLIC | Modifier.FINAL));
        for (Class<?> inside : SoundBench.class.getDeclaredClasses()) {
            due.holds(inside + " is static", Modifier.isStatic(inside.getModifiers()));
        }
        due.is("NONE", SoundBench.NONE, -1);
        due.close();
    }

    private static boolean isVisible(Member member) {
        return !Modifier.isPrivate(member.getModifiers());
    }
}
