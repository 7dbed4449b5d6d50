import java.lang.reflect.Constructor;
import java.lang.reflect.Executable;
import java.lang.reflect.Field;
import java.lang.reflect.Method;
import java.lang.reflect.Modifier;
import java.util.Arrays;
import java.util.TreeSet;

/** The public face: what the document lists, and no other member that can be seen from outside. */
public final class FaceTest {
    private static final String[] FACE = {
        "boolean take() throws IllegalStateException",
        "boolean undo() throws IllegalStateException",
        "int begin(int) throws IllegalArgumentException",
        "int count(int)",
        "int hint() throws IllegalStateException",
        "int line(int) throws IllegalArgumentException IllegalStateException",
        "int points(int) throws IllegalArgumentException",
        "int print() throws IllegalStateException",
        "int printed(int)",
        "int slip()",
        "int step(int) throws IllegalArgumentException IllegalStateException",
        "long solutions(int) throws IllegalArgumentException IllegalStateException",
        "long witness(int) throws IllegalArgumentException IllegalStateException",
        "void put(int,int) throws IllegalArgumentException",
    };

    public static void main(String[] args) {
        TreeSet<String> found = new TreeSet<>();
        TreeSet<String> names = new TreeSet<>();
        for (Method method : TutorLines.class.getDeclaredMethods()) {
            if (!Modifier.isPrivate(method.getModifiers()) && !method.isSynthetic()) {
                Check.same(method + " is public", Modifier.isPublic(method.getModifiers()), true);
                found.add(method.getReturnType() + " " + method.getName() + rest(method));
                names.add(method.getName());
            }
        }
        Check.same("face", String.join("; ", found), String.join("; ", FACE));
        for (Field field : TutorLines.class.getDeclaredFields()) {
            Check.same(field + " is private", Modifier.isPrivate(field.getModifiers()), true);
        }
        Constructor<?>[] constructors = TutorLines.class.getDeclaredConstructors();
        Check.same("constructors", Arrays.toString(constructors), "[public TutorLines()]");
        Check.same("class", Modifier.toString(TutorLines.class.getModifiers()), "public final");
        for (Class<?> inside : TutorLines.class.getDeclaredClasses()) {
            Check.same(inside + " is static", Modifier.isStatic(inside.getModifiers()), true);
            for (Method method : inside.getDeclaredMethods()) {
                Check.same(method + " bears a name of the face", names.contains(method.getName()), false);
            }
        }
        Check.finish();
    }

    private static String rest(Executable method) {
        StringBuilder all = new StringBuilder("(");
        for (Class<?> type : method.getParameterTypes()) {
            all.append(all.length() > 1 ? "," : "").append(type);
        }
        all.append(")");
        Class<?>[] thrown = method.getExceptionTypes();
        for (int i = 0; i < thrown.length; i++) {
            all.append(i == 0 ? " throws " : " ").append(thrown[i].getSimpleName());
        }
        return all.toString();
    }
}
