import java.lang.reflect.Constructor;
import java.lang.reflect.Field;
import java.lang.reflect.Method;
import java.lang.reflect.Modifier;
import java.util.Arrays;
import java.util.TreeSet;

/** The public face: just the document's members, and nothing else that can be seen from outside. */
final class FaceTest {
    private static final String[] FACE = {
        "boolean type(char)", "int wipe()", "int insert()", "int erase(int)", "void go(int, boolean)",
        "void compile()", "int fault()", "int find(int)", "int replace()", "int undo()", "int redo()",
        "void jump(int)", "int length()", "char at(int)", "int line(int, int)", "int figure(int)", "int parent(int)"
    };

    public static void main(String[] args) {
        Class<?> face = DraftTree.class;
        Check.same("public and final", face.getModifiers(), Modifier.PUBLIC | Modifier.FINAL);
        Check.same("in no package", face.getPackageName(), "");
        TreeSet<String> seen = new TreeSet<>();
        for (Method method : face.getDeclaredMethods()) {
            if (!Modifier.isPrivate(method.getModifiers())) {
                Check.same(method.getName() + " is public", method.getModifiers(), Modifier.PUBLIC);
                String takes = Arrays.toString(method.getParameterTypes()).replace('[', '(').replace(']', ')');
                seen.add(method.getReturnType() + " " + method.getName() + takes);
            }
        }
        Check.same("methods", seen, new TreeSet<>(Arrays.asList(FACE)));
        for (Field field : face.getDeclaredFields()) {
            Check.same(field.getName() + " is private", Modifier.isPrivate(field.getModifiers()), true);
        }
        Constructor<?>[] constructors = face.getDeclaredConstructors();
        Check.same("constructors", constructors.length, 1);
        Check.same("constructor", constructors[0].toString(), "public DraftTree()");
        Check.end();
    }
}
