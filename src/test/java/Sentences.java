import java.lang.reflect.InvocationTargetException;
import java.lang.reflect.Method;
import java.util.Map;
import java.util.TreeMap;

/** Runs the tests of a class, those with a Sentence, and names each that fails with its sentence. */
final class Sentences {
    private Sentences() {
    }

    static void runAll(Class<?> tests) throws IllegalAccessException {
        Map<String, Method> byName = new TreeMap<>();
        for (Method method : tests.getDeclaredMethods()) {
            if (method.isAnnotationPresent(Sentence.class)) {
                byName.put(method.getName(), method);
            }
        }
        int failed = 0;
        for (Method test : byName.values()) {
            if (!passes(test)) {
                failed++;
                System.out.println("FAILED: " + test.getName() + ": \"" + test.getAnnotation(Sentence.class).value() + "\"");
            }
        }
        System.out.println(byName.size() + " tests of sentences, " + failed + " failed");
        if (failed != 0 || byName.isEmpty()) {
            System.exit(1);
        }
    }

    private static boolean passes(Method test) throws IllegalAccessException {
        int wrongBefore = Trial.CHECK.wrongOnes();
        try {
            test.setAccessible(true);
            test.invoke(null);
        } catch (InvocationTargetException thrown) {
            System.out.println(test.getName() + " threw " + thrown.getCause());
            return false;
        }
        return Trial.CHECK.wrongOnes() == wrongBefore;
    }
}
