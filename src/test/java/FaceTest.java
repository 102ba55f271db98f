import java.lang.reflect.Constructor;
import java.lang.reflect.Field;
import java.lang.reflect.Method;
import java.lang.reflect.Modifier;
import java.util.TreeSet;

/** The face is the document's, and nothing else can be seen from outside. */
public final class FaceTest {
    private static final String[] FACE = {
        "append(int) int throws IllegalArgumentException IllegalStateException",
        "bestFeed(int) int throws IllegalArgumentException",
        "bestLag(int) int throws IllegalArgumentException",
        "can(int int) int throws IndexOutOfBoundsException IllegalArgumentException",
        "clear() int throws",
        "clearBuffer() int throws",
        "count(int) int throws IllegalArgumentException",
        "digest() long throws",
        "feed(int) int throws IllegalArgumentException",
        "feeler(int) int throws IllegalArgumentException",
        "fill(int) int throws IndexOutOfBoundsException IllegalArgumentException IllegalStateException",
        "firstError() int throws",
        "goBack() int throws IllegalStateException",
        "ifRun(int int) int throws IllegalArgumentException",
        "keep() int throws",
        "mean(int) double throws IndexOutOfBoundsException",
        "metre(int int) int throws IndexOutOfBoundsException IllegalArgumentException",
        "out(int) int throws IndexOutOfBoundsException",
        "run(int) int throws IllegalArgumentException",
        "set(int int) int throws IndexOutOfBoundsException IllegalArgumentException",
        "setting(int) int throws IndexOutOfBoundsException",
        "tip(int) int throws IndexOutOfBoundsException",
        "undo() int throws IllegalStateException",
        "wasteShare() float throws",
        "why() int throws",
    };

    public static void main(String[] args) {
        Class<?> face = DrawnSlivers.class;
        TreeSet<String> names = new TreeSet<>();
        TreeSet<String> seen = new TreeSet<>();
        for (Method method : face.getDeclaredMethods()) {
            if (!Modifier.isPrivate(method.getModifiers())) {
                seen.add(told(method));
                names.add(method.getName());
                Check.same(method + " is public alone", method.getModifiers(), Modifier.PUBLIC);
            }
        }
        Check.same("the face", String.join("\n", seen), String.join("\n", FACE));
        for (Method method : face.getDeclaredMethods()) {
            if (Modifier.isPrivate(method.getModifiers()) && names.contains(method.getName())) {
                Check.fail("private method with a public name: " + method);
            }
        }
        for (Field field : face.getDeclaredFields()) {
            if (!Modifier.isPrivate(field.getModifiers())) {
                Check.same("the one constant", field.toString(), "public static final int DrawnSlivers.NONE");
            }
        }
        Constructor<?>[] constructors = face.getDeclaredConstructors();
        Check.same("constructors", constructors.length, 1);
        Check.same("the constructor", constructors[0].toString(), "public DrawnSlivers()");
        Check.same("public and final", face.getModifiers(), Modifier.PUBLIC | Modifier.FINAL);
        for (Class<?> inside : face.getDeclaredClasses()) {
            int modifiers = inside.getModifiers();
            boolean hidden = Modifier.isStatic(modifiers) && !Modifier.isPublic(modifiers) && !Modifier.isProtected(modifiers);
            Check.same(inside + " is hidden and static", hidden ? 1 : 0, 1);
        }
        Check.end("FaceTest");
    }

    private static String told(Method method) {
        StringBuilder all = new StringBuilder(method.getName()).append('(');
        String between = "";
        for (Class<?> type : method.getParameterTypes()) {
            all.append(between).append(type.getSimpleName());
            between = " ";
        }
        all.append(") ").append(method.getReturnType().getSimpleName()).append(" throws");
        for (Class<?> type : method.getExceptionTypes()) {
            all.append(' ').append(type.getSimpleName());
        }
        return all.toString();
    }
}
