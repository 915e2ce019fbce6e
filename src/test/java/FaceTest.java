import java.lang.reflect.Constructor;
import java.lang.reflect.Field;
import java.lang.reflect.Method;
import java.lang.reflect.Modifier;
import java.util.Arrays;
import java.util.Set;
import java.util.TreeSet;

/** The public face of the document, and rule 1 of LANGUAGE.md: nothing else can be seen. */
public final class FaceTest {
    private static final String[] FACE = {
        "boolean isRight(int) throws IndexOutOfBoundsException IllegalStateException",
        "boolean isSolvable() throws IllegalStateException",
        "int cell(int,int,int,int) throws IndexOutOfBoundsException IllegalStateException",
        "int determinant(int,int) throws IndexOutOfBoundsException IllegalStateException",
        "int eliminate(int) throws IllegalArgumentException",
        "int meter() throws",
        "int modulo(int) throws",
        "int most() throws IllegalStateException",
        "int pivot(int) throws IndexOutOfBoundsException IllegalStateException",
        "int rank() throws",
        "int right(int,int,int) throws IndexOutOfBoundsException IllegalArgumentException",
        "int set(int,int,int,int) throws IndexOutOfBoundsException IllegalArgumentException",
        "int solution(int,int,int) throws IndexOutOfBoundsException IllegalStateException",
        "int told(int,int,int,int) throws IndexOutOfBoundsException",
        "void size(int) throws IllegalArgumentException",
    };

    public static void main(String[] args) {
        Check check = new Check();
        Set<String> seen = new TreeSet<>();
        Set<String> names = new TreeSet<>();
        for (Method m : LimbSolver.class.getDeclaredMethods()) {
            if (!Modifier.isPrivate(m.getModifiers())) {
                seen.add(describe(m));
                names.add(m.getName());
            }
        }
        check.due("methods", seen.toString(), new TreeSet<>(Arrays.asList(FACE)).toString());
        for (Method m : LimbSolver.class.getDeclaredMethods()) {
            boolean hidden = Modifier.isPrivate(m.getModifiers());
            check.due("name of " + m.getName(), Boolean.toString(hidden && names.contains(m.getName())), "false");
        }
        for (Field f : LimbSolver.class.getDeclaredFields()) {
            boolean visible = !Modifier.isPrivate(f.getModifiers());
            check.due("field " + f.getName(), Boolean.toString(visible), Boolean.toString(f.getName().equals("NONE")));
        }
        Constructor<?>[] made = LimbSolver.class.getDeclaredConstructors();
        check.due("constructors", () -> made.length, 1);
        check.due("public constructor", () -> LimbSolver.class.getConstructors().length, 1);
        check.due("public and final", () -> LimbSolver.class.getModifiers() & (Modifier.PUBLIC | Modifier.FINAL),
                Modifier.PUBLIC | Modifier.FINAL);
        check.due("NONE", () -> LimbSolver.NONE, -1);
        for (Class<?> inside : LimbSolver.class.getDeclaredClasses()) {
            check.due(inside.getName() + " is static",
                    Boolean.toString(Modifier.isStatic(inside.getModifiers())), "true");
            for (Method m : inside.getDeclaredMethods()) {
                check.due("name of " + m.getName() + " inside", Boolean.toString(names.contains(m.getName())), "false");
            }
        }
        check.finish("FaceTest");
    }

    private static String describe(Method m) {
        StringBuilder text = new StringBuilder(m.getReturnType().getName()).append(' ').append(m.getName()).append('(');
        for (int i = 0; i < m.getParameterCount(); i++) {
            text.append(i == 0 ? "" : ",").append(m.getParameterTypes()[i].getName());
        }
        text.append(") throws");
        for (Class<?> thrown : m.getExceptionTypes()) {
            text.append(' ').append(thrown.getSimpleName());
        }
        return text.toString();
    }
}
