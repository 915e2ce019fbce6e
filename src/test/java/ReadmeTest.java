import java.io.IOException;
import java.lang.reflect.InvocationTargetException;
import java.lang.reflect.Method;
import java.lang.reflect.Modifier;
import java.nio.file.Files;
import java.nio.file.Path;
import java.util.Set;
import java.util.TreeSet;
import java.util.regex.Matcher;
import java.util.regex.Pattern;

/** README.md says how to use the class: its calls answer what stands behind them. */
public final class ReadmeTest {
    private static final Pattern CALL = Pattern.compile("x\\.(\\w+)\\(([^)]*)\\); *// *([^:]*?)(:.*)?");
    private static final Check CHECK = new Check();

    public static void main(String[] args) throws IOException {
        LimbSolver solver = new LimbSolver();
        Set<String> called = new TreeSet<>();
        for (String line : Files.readAllLines(Path.of("README.md"))) {
            Matcher found = CALL.matcher(line);
            if (!found.matches()) {
                continue;
            }
            Method method = methodOf(found.group(1));
            called.add(found.group(1));
            String got = answer(solver, method, found.group(2));
            // What a call without an answer does is told in words.
            CHECK.due(line, got, method.getReturnType() == void.class ? "nothing" : found.group(3));
        }
        Set<String> all = new TreeSet<>();
        for (Method method : LimbSolver.class.getDeclaredMethods()) {
            if (Modifier.isPublic(method.getModifiers())) {
                all.add(method.getName());
            }
        }
        CHECK.due("the methods that README.md calls", called.toString(), all.toString());
        CHECK.finish("ReadmeTest");
    }

    private static Method methodOf(String name) {
        for (Method method : LimbSolver.class.getDeclaredMethods()) {
            if (method.getName().equals(name)) {
                return method;
            }
        }
        throw new IllegalArgumentException("README.md calls " + name + ", and there is no such method");
    }

    private static String answer(LimbSolver solver, Method method, String numbers) {
        String[] texts = numbers.isEmpty() ? new String[0] : numbers.split(", *");
        Object[] values = new Object[texts.length];
        for (int i = 0; i < texts.length; i++) {
            values[i] = Integer.valueOf(texts[i]);
        }
        try {
            Object result = method.invoke(solver, values);
            boolean none = result instanceof Integer && (Integer) result == LimbSolver.NONE && !isSign(method, values);
            return none ? "NONE" : result == null ? "nothing" : result.toString();
        } catch (InvocationTargetException e) {
            return "throws " + e.getCause().getClass().getSimpleName();
        } catch (IllegalAccessException e) {
            return "cannot be called";
        }
    }

    /** Of a part, which is the last number but one; 0 asks for the sign, which may be -1 too. */
    private static boolean isSign(Method method, Object[] values) {
        Set<String> parts = Set.of("solution", "determinant", "cell", "told");
        return parts.contains(method.getName()) && values[values.length - 2].equals(0);
    }
}
