import java.lang.reflect.InvocationTargetException;
import java.lang.reflect.Method;
import java.util.Arrays;
import java.util.Comparator;

/** Runs the tests of a class: its methods that name a sentence. */
final class Sentences {
    private Sentences() {
    }

    static void run(Class<?> tests) {
        Method[] methods = tests.getDeclaredMethods();
        Arrays.sort(methods, Comparator.comparing(Method::getName));
        int count = 0;
        for (Method test : methods) {
            Sentence sentence = test.getAnnotation(Sentence.class);
            if (sentence != null) {
                runOne(test, sentence);
                count++;
            }
        }
        Check.about("");
        if (count == 0) {
            Check.fault(tests.getName() + " has no test");
        }
        System.out.println(count + " sentences");
        Check.end();
    }

    private static void runOne(Method test, Sentence sentence) {
        Check.about("Promise " + sentence.promise() + ": \"" + sentence.says() + "\" (" + sentence.edge() + ", "
                + test.getName() + "): ");
        int before = Check.checked();
        try {
            test.setAccessible(true);
            test.invoke(null);
        } catch (InvocationTargetException e) {
            Check.fault("threw " + e.getCause());
        } catch (IllegalAccessException e) {
            Check.fault("can't be called: " + e);
        }
        if (Check.checked() == before) {
            Check.fault("looks at no answer");
        }
    }
}
