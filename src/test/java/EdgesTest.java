import java.lang.reflect.InvocationTargetException;
import java.lang.reflect.Method;
import java.lang.reflect.Modifier;
import java.util.Arrays;
import java.util.Comparator;

/** Each sentence of the document that names a boundary has a test of its own: the methods of the classes named here. */
public final class EdgesTest {
    private static final Class<?>[] PARTS = {
        TextEdges.class, OfferEdges.class, HearEdges.class, QueueEdges.class, UndoEdges.class, AskedEdges.class,
        LongRunEdges.class, SeenEdges.class, RefusedEdges.class, PlainSentences.class,
    };

    public static void main(String[] args) throws IllegalAccessException {
        int tests = 0;
        for (Class<?> part : PARTS) {
            tests += runAll(part);
        }
        Sentence.allAreTested();
        System.out.println(tests + " tests of a sentence each");
        Due.close();
    }

    /** Every static method without parameters that is not private is a test. */
    private static int runAll(Class<?> part) throws IllegalAccessException {
        Method[] methods = part.getDeclaredMethods();
        Arrays.sort(methods, Comparator.comparing(Method::getName));
        int tests = 0;
        for (Method method : methods) {
            int modifiers = method.getModifiers();
            boolean open = Modifier.isStatic(modifiers) && !Modifier.isPrivate(modifiers) && !method.isSynthetic();
            if (open && method.getParameterCount() == 0 && method.getReturnType() == void.class) {
                run(part, method);
                tests++;
            }
        }
        return tests;
    }

    private static void run(Class<?> part, Method method) throws IllegalAccessException {
        Due.under(part.getName() + "." + method.getName() + " names no sentence");
        try {
            method.invoke(null);
        } catch (InvocationTargetException e) {
            e.getCause().printStackTrace(System.out);
            Due.holds("that nothing is thrown, " + e.getCause() + ",", false);
        }
    }
}
