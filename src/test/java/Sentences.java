import java.lang.reflect.InvocationTargetException;
import java.lang.reflect.Method;
import java.util.Arrays;
import java.util.Comparator;

/** Runs every test of a class that bears a sentence, so that none can be forgotten in a list. */
final class Sentences {
    private Sentences() {
    }

    static void askAll(Class<?> tests) {
        Method[] all = Arrays.stream(tests.getDeclaredMethods())
            .filter(m -> m.isAnnotationPresent(Says.class))
            .sorted(Comparator.comparing(Method::getName))
            .toArray(Method[]::new);
        for (Method test : all) {
            ask(test);
        }
        System.out.println(all.length + " sentences asked");
        Check.end();
    }

    private static void ask(Method test) {
        Says says = test.getAnnotation(Says.class);
        Check.under(says.in() + ", \"" + says.sentence() + "\", " + test.getName() + ": ");
        int before = Check.looked();
        String ended = "as due";
        try {
            test.invoke(null);
        } catch (InvocationTargetException e) {
            ended = e.getCause().toString();
        } catch (IllegalAccessException e) {
            ended = e.toString();
        }
        Check.same("the test's end", ended, "as due");
        Check.yes("the test asks something", Check.looked() > before + 1);
    }
}
