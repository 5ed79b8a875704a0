import java.lang.reflect.Constructor;
import java.lang.reflect.Field;
import java.lang.reflect.Method;
import java.lang.reflect.Modifier;
import java.util.Arrays;
import java.util.StringJoiner;
import java.util.TreeSet;

/** The public face: just the document's members, and nothing else that can be seen from outside. */
final class FaceTest {
    private static final String[] FACE = {
        "boolean type(char)", "int wipe()", "int insert() throws IllegalStateException", "int erase(int) throws IllegalStateException",
        "void go(int, boolean) throws IndexOutOfBoundsException", "void compile() throws IllegalArgumentException", "int fault()",
        "int find(int) throws IllegalStateException, IndexOutOfBoundsException, NoSuchElementException",
        "int replace() throws IllegalStateException", "int undo() throws NoSuchElementException",
        "int redo() throws NoSuchElementException", "void jump(int) throws IllegalArgumentException", "int length()",
        "char at(int) throws IndexOutOfBoundsException",
        "int line(int, int) throws IllegalArgumentException, IndexOutOfBoundsException",
        "int figure(int) throws IllegalArgumentException", "int parent(int) throws IllegalArgumentException"
    };

    public static void main(String[] args) {
        Class<?> face = DraftTree.class;
        Check.same("public and final", face.getModifiers(), Modifier.PUBLIC | Modifier.FINAL);
        Check.same("in no package", face.getPackageName(), "");
        TreeSet<String> seen = new TreeSet<>();
        for (Method method : face.getDeclaredMethods()) {
            if (!Modifier.isPrivate(method.getModifiers())) {
                Check.same(method.getName() + " is public", method.getModifiers(), Modifier.PUBLIC);
                seen.add(method.getReturnType() + " " + method.getName() + "(" + names(method.getParameterTypes()) + ")"
                    + (method.getExceptionTypes().length == 0 ? "" : " throws " + names(method.getExceptionTypes())));
            }
        }
        Check.same("methods", seen, new TreeSet<>(Arrays.asList(FACE)));
        for (Field field : face.getDeclaredFields()) {
            Check.same(field.getName() + " is private", Modifier.isPrivate(field.getModifiers()), true);
        }
        Constructor<?>[] constructors = face.getDeclaredConstructors();
        Check.same("constructors", constructors.length, 1);
        Check.same("constructor", constructors[0].toString(), "public DraftTree()");
        Check.end();
    }

    private static String names(Class<?>[] types) {
        StringJoiner names = new StringJoiner(", ");
        for (Class<?> type : types) {
            names.add(type.getSimpleName());
        }
        return names.toString();
    }
}
