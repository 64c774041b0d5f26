import java.lang.reflect.InvocationTargetException;
import java.lang.reflect.Method;
import java.util.Map;
import java.util.TreeMap;

/** Runs the tests of a class that bear a sentence, all of them, so that none can be forgotten. */
final class Sentences {
    private Sentences() {
    }

    static void run(Class<?> tests, Due due) {
        Map<String, Method> byName = new TreeMap<>();
        for (Method method : tests.getDeclaredMethods()) {
            if (method.isAnnotationPresent(Sentence.class)) {
                byName.put(method.getName(), method);
            }
        }
        for (Method method : byName.values()) {
            Sentence sentence = method.getAnnotation(Sentence.class);
            due.about(method.getName() + " (" + sentence.in() + ": \"" + sentence.says() + "\")");
            runOne(method, due);
        }
        System.out.println(byName.size() + " tests of sentences");
        due.is("a class without tests", byName.isEmpty(), false);
        due.end();
    }

    private static void runOne(Method method, Due due) {
        try {
            method.invoke(null);
        } catch (InvocationTargetException e) {
            due.tell("threw " + e.getCause());
        } catch (IllegalAccessException e) {
            due.tell("can't be called");
        }
    }
}
