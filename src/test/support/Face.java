import java.lang.reflect.InvocationTargetException;
import java.lang.reflect.Method;
import java.lang.reflect.Modifier;
import java.util.ArrayList;
import java.util.Comparator;
import java.util.List;

/** The methods of the public face, called by reflection; an exception that the face names is an answer too. */
final class Face {
    private Face() {
    }

    static List<Method> methods() {
        List<Method> found = new ArrayList<>();
        for (Method method : TwinFinder.class.getDeclaredMethods()) {
            if (Modifier.isPublic(method.getModifiers())) {
                found.add(method);
            }
        }
        found.sort(Comparator.comparing(Method::getName));
        return found;
    }

    static Method named(String name) {
        for (Method method : methods()) {
            if (method.getName().equals(name)) {
                return method;
            }
        }
        throw new IllegalStateException("the face has no " + name);
    }

    /** The answer, or 'throws' and the exception's name; one that the method's face does not name ends the test. */
    static String answer(TwinFinder finder, Method method, Object... arguments) {
        try {
            return String.valueOf(method.invoke(finder, arguments));
        } catch (InvocationTargetException e) {
            for (Class<?> named : method.getExceptionTypes()) {
                if (e.getCause().getClass() == named) {
                    return "throws " + named.getSimpleName();
                }
            }
            throw new IllegalStateException(method.getName() + " threw what its face does not name", e.getCause());
        } catch (IllegalAccessException e) {
            throw new IllegalStateException(e);
        }
    }
}
