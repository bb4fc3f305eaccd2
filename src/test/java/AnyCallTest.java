import java.lang.reflect.InvocationTargetException;
import java.lang.reflect.Method;
import java.util.Arrays;
import java.util.List;
import java.util.Random;

/** Runs of any calls with any arguments: only what the face names is thrown, never by the machine itself. */
public final class AnyCallTest {
    private static final Random LOT = new Random(512);
    private static final int[] EDGES = {-1, 0, 1, 5, 6, 7, 8, 24, 30, 31, 32, Integer.MIN_VALUE, Integer.MAX_VALUE};

    public static void main(String[] args) throws IllegalAccessException {
        Method[] face = Arrays.stream(Bruhatry.class.getDeclaredMethods())
                .filter(method -> java.lang.reflect.Modifier.isPublic(method.getModifiers()))
                .sorted((a, b) -> a.getName().compareTo(b.getName())).toArray(Method[]::new);
        Check.due("methods of the face", face.length, 50);
        for (int run = 0; run < 300; run++) {
            Bruhatry x = new Bruhatry();
            x.begin(1 + LOT.nextInt(5));
            for (int i = 0; i < 512; i++) {
                Method method = face[LOT.nextInt(face.length)];
                String name = method.getName();
                boolean isReset = name.equals("begin") || name.equals("bond") || name.equals("erase");
                int times = name.equals("type") || name.equals("step") ? 8 : 1;
                for (int k = 0; k < times && !(isReset && LOT.nextInt(6) > 0); k++) {
                    call(x, method);
                }
            }
            Check.due("isSound after any calls", x.isSound(), true);
        }
        Check.end("AnyCallTest");
    }

    private static void call(Bruhatry x, Method method) throws IllegalAccessException {
        Object[] arguments = new Object[method.getParameterCount()];
        for (int i = 0; i < arguments.length; i++) {
            arguments[i] = some(method.getParameterTypes()[i], method.getName());
        }
        try {
            method.invoke(x, arguments);
        } catch (InvocationTargetException e) {
            Throwable thrown = e.getCause();
            List<Class<?>> named = List.of(method.getExceptionTypes());
            Check.due(method.getName() + Arrays.toString(arguments) + " threw " + thrown,
                    named.contains(thrown.getClass()) && thrown.getMessage() == null, true);
        }
    }

    private static Object some(Class<?> type, String method) {
        if (type == boolean.class) {
            return LOT.nextBoolean();
        }
        if (type == char.class) {
            return "lrsmx\0".charAt(LOT.nextInt(6));
        }
        if (type == long.class) {
            return LOT.nextInt(4) == 0 ? LOT.nextLong() : (long) LOT.nextInt(5) * 1000000000 + LOT.nextInt(5);
        }
        if (LOT.nextInt(8) == 0) {
            return EDGES[LOT.nextInt(EDGES.length)];
        }
        if (method.equals("bond") && LOT.nextBoolean()) {
            return new int[] {0, 2, 3, 4, 6}[LOT.nextInt(5)];
        }
        return method.equals("step") ? LOT.nextInt(8) - 4 : LOT.nextInt(LOT.nextInt(4) == 0 ? 24 : 4);
    }
}
