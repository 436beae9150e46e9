import java.lang.reflect.Constructor;
import java.lang.reflect.Field;
import java.lang.reflect.Method;
import java.lang.reflect.Modifier;
import java.util.Set;
import java.util.TreeSet;

/** The face: the members of the document and no other that can be seen from outside. */
public final class FaceTest {
    private static final String[] FACE = {
        "int count(boolean)",
        "int district(int) throws IllegalArgumentException UnsupportedOperationException",
        "int judge() throws IllegalStateException",
        "void lot(int int) throws IndexOutOfBoundsException",
        "long number(boolean int boolean) throws IllegalStateException IndexOutOfBoundsException NoSuchElementException",
        "int party() throws UnsupportedOperationException",
        "void propose(int int int) throws IndexOutOfBoundsException IllegalArgumentException",
        "int seats(int int boolean) throws IllegalStateException IndexOutOfBoundsException",
        "int share(int) throws IllegalStateException IndexOutOfBoundsException",
        "boolean blocks(boolean int) throws IllegalStateException IndexOutOfBoundsException",
        "boolean solve() throws IllegalStateException",
        "void threshold(int) throws IllegalArgumentException",
        "boolean tied(int) throws IllegalStateException IndexOutOfBoundsException",
        "boolean unique() throws IllegalStateException",
        "void votes(int int int) throws IndexOutOfBoundsException IllegalArgumentException",
        "void weigh(boolean)",
    };

    public static void main(String[] args) {
        Class<?> face = TwoWaySeats.class;
        Check.due("the class is public and final", Modifier.PUBLIC | Modifier.FINAL, face::getModifiers);
        Set<String> publicNames = new TreeSet<>();
        Set<String> seen = new TreeSet<>();
        for (Method method : face.getDeclaredMethods()) {
            if (Modifier.isPublic(method.getModifiers())) {
                seen.add(signature(method));
                publicNames.add(method.getName());
            }
        }
        Check.due("the public methods", new TreeSet<>(Set.of(FACE)), () -> seen);
        for (Method method : face.getDeclaredMethods()) {
            if (!Modifier.isPublic(method.getModifiers())) {
                Check.due(method + " is private", true, () -> Modifier.isPrivate(method.getModifiers()));
                Check.due(method + " has a public name", false, () -> publicNames.contains(method.getName()));
            }
        }
        for (Field field : face.getDeclaredFields()) {
            Check.due(field + " is private", true, () -> Modifier.isPrivate(field.getModifiers()));
        }
        Constructor<?>[] constructors = face.getDeclaredConstructors();
        Check.due("constructors", 1, () -> constructors.length);
        Check.due("the constructor's parameters", 0, () -> constructors[0].getParameterCount());
        Check.due("the constructor is public", true, () -> Modifier.isPublic(constructors[0].getModifiers()));
        for (Class<?> inner : face.getDeclaredClasses()) {
            Check.due(inner + " is static", true, () -> Modifier.isStatic(inner.getModifiers()));
        }
        Check.end();
    }

    private static String signature(Method method) {
        StringBuilder text = new StringBuilder();
        text.append(method.getReturnType().getSimpleName()).append(' ').append(method.getName());
        text.append(names("(", method.getParameterTypes())).append(')');
        if (method.getExceptionTypes().length > 0) {
            text.append(names(" throws ", method.getExceptionTypes()));
        }
        return text.toString();
    }

    private static String names(String before, Class<?>[] types) {
        StringBuilder text = new StringBuilder(before);
        for (int k = 0; k < types.length; k++) {
            text.append(k > 0 ? " " : "").append(types[k].getSimpleName());
        }
        return text.toString();
    }
}
