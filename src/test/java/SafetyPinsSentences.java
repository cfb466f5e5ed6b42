import java.lang.reflect.InvocationTargetException;
import java.lang.reflect.Method;
import java.util.Arrays;
import java.util.Comparator;

/**
 * Sentence by sentence. Every method of the classes below whose name begins with the number of a promise is a test,
 * and names the words of the document that it stands for: in SafetyPinsBounds.. those that name a boundary case, at
 * the bound and one step to each side; in SafetyPinsWords.. the others. Words that no test stands for are a fault.
 */
public final class SafetyPinsSentences {
    private static final Class<?>[] TESTS = {
        SafetyPinsBoundsTown.class, SafetyPinsBoundsActs.class, SafetyPinsBoundsAhead.class, SafetyPinsBoundsChances.class,
        SafetyPinsWordsTown.class, SafetyPinsWordsActs.class, SafetyPinsWordsAhead.class, SafetyPinsWordsChances.class};

    public static void main(String[] args) throws Exception {
        int tests = 0;
        for (Class<?> group : TESTS) {
            tests += runAll(group);
        }
        for (int promise = 1; promise <= 30; promise++) {
            if (!SafetyPinsBench.promisesMet().contains(promise)) {
                SafetyPinsBench.fault("no sentence of promise " + promise + " has a test");
            }
        }
        SafetyPinsBench.newTest();
        for (String words : SafetyPinsDocument.unmet()) {
            SafetyPinsBench.fault("no test stands for " + words);
        }
        int wrong = SafetyPinsBench.wrong();
        System.out.println(wrong == 0 ? "the document's sentences hold, by " + tests + " tests" : wrong + " answers are not as due");
        if (wrong != 0) {
            System.exit(1);
        }
    }

    private static int runAll(Class<?> group) throws IllegalAccessException {
        Method[] methods = group.getDeclaredMethods();
        Arrays.sort(methods, Comparator.comparing(Method::getName));
        int tests = 0;
        for (Method test : methods) {
            if (!test.getName().matches("p[0-9][0-9]_.*")) {
                continue;
            }
            tests++;
            SafetyPinsBench.newTest();
            try {
                test.invoke(null);
            } catch (InvocationTargetException e) {
                SafetyPinsBench.fault(test.getName() + " threw " + e.getCause());
            }
            SafetyPinsBench.mustHaveSentence(test.getName());
        }
        return tests;
    }
}
