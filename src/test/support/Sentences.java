import java.lang.reflect.InvocationTargetException;
import java.lang.reflect.Method;
import java.util.ArrayList;
import java.util.Comparator;
import java.util.List;
import java.util.function.Consumer;
import java.util.regex.Matcher;
import java.util.regex.Pattern;

/** Runs the tests of a class, each a method promiseN_.. for one sentence of the document, and holds their checks. */
final class Sentences {
    private static final Pattern NAME = Pattern.compile("promise(\\d+)_\\w+");
    private static final List<String> faults = new ArrayList<>();
    private static int checks = 0;

    private Sentences() {
    }

    /** Runs all tests of the class; it ends with exit code 1 if one fails, or if one of the promises has no test. */
    static void run(Class<?> tests, int... promises) {
        int failed = 0;
        for (int promise : promises) {
            List<Method> its = testsOf(tests, promise);
            if (its.isEmpty()) {
                failed++;
                System.out.println("promise " + promise + " has no test");
            }
            for (Method test : its) {
                failed += holds(test) ? 0 : 1;
            }
            System.out.println("promise " + promise + ": " + its.size() + " sentences");
        }
        failed += strays(tests, promises);
        System.out.println(checks + " checks, " + failed + " sentences do not hold");
        if (failed != 0) {
            System.exit(1);
        }
    }

    private static List<Method> testsOf(Class<?> tests, int promise) {
        List<Method> found = new ArrayList<>();
        for (Method method : tests.getDeclaredMethods()) {
            if (promiseOf(method) == promise) {
                found.add(method);
            }
        }
        found.sort(Comparator.comparing(Method::getName));
        return found;
    }

    private static int promiseOf(Method method) {
        Matcher name = NAME.matcher(method.getName());
        return name.matches() ? Integer.parseInt(name.group(1)) : -1;
    }

    /** A test that no run would reach is a fault of the test file. */
    private static int strays(Class<?> tests, int... promises) {
        int found = 0;
        for (Method method : tests.getDeclaredMethods()) {
            int promise = promiseOf(method);
            boolean runs = false;
            for (int one : promises) {
                runs |= one == promise;
            }
            boolean isTest = promise >= 0 || method.isAnnotationPresent(Says.class);
            if (isTest && !(runs && method.isAnnotationPresent(Says.class))) {
                found++;
                System.out.println(method.getName() + " is not run, or tells no sentence");
            }
        }
        return found;
    }

    private static boolean holds(Method test) {
        faults.clear();
        try {
            test.setAccessible(true);
            test.invoke(null);
        } catch (InvocationTargetException e) {
            faults.add("threw " + e.getCause());
        } catch (IllegalAccessException e) {
            faults.add("cannot be run: " + e);
        }
        if (!faults.isEmpty()) {
            Says sentence = test.getAnnotation(Says.class);
            System.out.println("FAILED " + test.getName() + ": " + (sentence == null ? "" : sentence.value()));
            faults.stream().limit(10).forEach(fault -> System.out.println("    " + fault));
        }
        return faults.isEmpty();
    }

    static void due(String name, Object got, Object want) {
        checks++;
        if (!got.equals(want)) {
            faults.add(name + " answered " + got + ", due is " + want);
        }
    }

    /** The calls that are refused leave no trace: an object that had them answers all as one that had not. */
    static void unchanged(Consumer<Finder> refused) {
        Finder with = Finder.withSomeOfAll();
        Finder without = Finder.withSomeOfAll();
        refused.accept(with);
        due("all that can be asked", with.lookAtAll(), without.lookAtAll());
    }
}
