import java.lang.reflect.InvocationTargetException;
import java.lang.reflect.Method;
import java.util.ArrayList;
import java.util.Comparator;
import java.util.List;

/** Calls by their names, of the class or of the slow telling of the document. */
final class Calls {
    private Calls() {
    }

    /** The methods of the face, always in the same order. */
    static List<Method> ofTheFace() {
        List<Method> methods = new ArrayList<>();
        for (Method method : PointsOffice.class.getMethods()) {
            if (method.getDeclaringClass() == PointsOffice.class) {
                methods.add(method);
            }
        }
        methods.sort(Comparator.comparing(Method::getName));
        return methods;
    }

    static int answer(Object of, String name, int[] numbers) throws ReflectiveOperationException {
        Class<?>[] types = new Class<?>[numbers.length];
        Object[] handed = new Object[numbers.length];
        for (int i = 0; i < numbers.length; i++) {
            types[i] = int.class;
            handed[i] = numbers[i];
        }
        Method method = of.getClass().getDeclaredMethod(name, types);
        try {
            return (int) method.invoke(of, handed);
        } catch (InvocationTargetException e) {
            throw new IllegalStateException(name + " threw", e.getCause());
        }
    }
}
