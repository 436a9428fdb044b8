import java.lang.reflect.InvocationTargetException;
import java.lang.reflect.Method;
import java.util.ArrayList;
import java.util.Comparator;
import java.util.List;

/** Finds and runs the tests that bear a sentence of the document. */
final class Edges {
    private static final List<Class<?>> ALL = List.of(EdgesOfTermsTest.class, EdgesOfShelvesTest.class,
        EdgesOfOneTextTest.class, EdgesOfTwoTextsTest.class, EdgesOfMadeTextsTest.class,
        EdgesOfPiecesTest.class, EdgesOfAllTest.class);

    private Edges() {
    }

    static List<Method> all() {
        List<Method> all = new ArrayList<>();
        for (Class<?> tests : ALL) {
            all.addAll(of(tests));
        }
        return all;
    }

    private static List<Method> of(Class<?> tests) {
        List<Method> found = new ArrayList<>();
        for (Method method : tests.getDeclaredMethods()) {
            if (method.isAnnotationPresent(Says.class)) {
                found.add(method);
            }
        }
        // Reflection tells them in any order.
        found.sort(Comparator.comparing((Method method) -> method.getAnnotation(Says.class).promise())
            .thenComparing(Method::getName));
        return found;
    }

    static void run(Class<?> tests) throws IllegalAccessException, InvocationTargetException {
        Due due = new Due(tests.getSimpleName());
        for (Method test : of(tests)) {
            due.begin(test.getName());
            test.invoke(null, due);
            due.close();
        }
        due.end();
    }
}
