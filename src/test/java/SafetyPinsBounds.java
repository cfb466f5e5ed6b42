import java.lang.reflect.InvocationTargetException;
import java.lang.reflect.Method;
import java.util.Arrays;
import java.util.Comparator;

/**
 * Sentence by sentence: each that names a boundary case has a test of its own, at the bound and one step to each
 * side of it. Every method of the classes below whose name begins with the number of a promise is such a test.
 */
public final class SafetyPinsBounds {
    private static final Class<?>[] TESTS = {SafetyPinsBoundsTown.class, SafetyPinsBoundsActs.class,
        SafetyPinsBoundsAhead.class, SafetyPinsBoundsChances.class};

    public static void main(String[] args) throws Exception {
        int tests = 0;
        for (Class<?> group : TESTS) {
            tests += runAll(group);
        }
        for (int promise = 1; promise <= 30; promise++) {
            if (!SafetyPinsBench.promisesMet().contains(promise)) {
                SafetyPinsBench.fault("no sentence of promise " + promise + " has a test");
            }
        }
        int wrong = SafetyPinsBench.wrong();
        System.out.println(wrong == 0 ? tests + " sentences hold" : wrong + " answers are not as due");
        if (wrong != 0) {
            System.exit(1);
        }
    }

    private static int runAll(Class<?> group) throws IllegalAccessException {
        Method[] methods = group.getDeclaredMethods();
        Arrays.sort(methods, Comparator.comparing(Method::getName));
        int tests = 0;
        for (Method test : methods) {
            if (!test.getName().matches("p[0-9][0-9]_.*")) {
                continue;
            }
            tests++;
            SafetyPinsBench.newTest();
            try {
                test.invoke(null);
            } catch (InvocationTargetException e) {
                SafetyPinsBench.fault(test.getName() + " threw " + e.getCause());
            }
            SafetyPinsBench.mustHaveSentence(test.getName());
        }
        return tests;
    }
}
