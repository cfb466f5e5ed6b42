import java.lang.reflect.Constructor;
import java.lang.reflect.Field;
import java.lang.reflect.Member;
import java.lang.reflect.Method;
import java.lang.reflect.Modifier;
import java.nio.file.Files;
import java.nio.file.Path;
import java.util.ArrayList;
import java.util.List;
import java.util.Random;
import java.util.TreeSet;
import java.util.regex.Matcher;
import java.util.regex.Pattern;

/** The face as the document tells it, words that LANGUAGE.md bars, and calls with any numbers at all. */
public final class SafetyPinsFace {
    private static final String[] METHODS = {
        "int write(int)", "int wipe()", "int fault()", "int town()", "int pin(int, int)", "int with(int)",
        "int day()", "int tug(int, int)", "int shut(int)", "int open(int)", "int undo()",
        "int later(int)", "int lasts(int)", "int chain(int)", "int cuts(int, int)", "int parts(int, int, int)",
        "int letsGo(int)", "int judge(int, long)",
        "int trial(int, int)", "int untry()", "int which(int)",
        "int share(int, boolean)", "int rests(int, int, int)", "int gives(int, int, int, boolean)",
        "long seed(long)", "int seasons(int)", "int keep(int)", "int again(int)", "int count(int)"};

    private static int wrong = 0;

    private static void must(boolean holds, String what) {
        if (!holds) {
            wrong++;
            System.out.println("face: " + what);
        }
    }

    public static void main(String[] args) throws Exception {
        face();
        words(Files.readString(Path.of(args[0])));
        anyNumbers();
        System.out.println(wrong == 0 ? "the face is as told" : wrong + " faults of the face");
        if (wrong != 0) {
            System.exit(1);
        }
    }

    private static void face() {
        Class<?> c = SafetyPins.class;
        must(Modifier.isPublic(c.getModifiers()) && Modifier.isFinal(c.getModifiers()), "public and final");
        TreeSet<String> told = new TreeSet<>(List.of(METHODS));
        TreeSet<String> names = new TreeSet<>();
        TreeSet<String> found = new TreeSet<>();
        List<Method> hidden = new ArrayList<>();
        for (Method m : c.getDeclaredMethods()) {
            if (m.isSynthetic()) continue;
            if (Modifier.isPrivate(m.getModifiers())) {
                hidden.add(m);
                continue;
            }
            must(m.getModifiers() == Modifier.PUBLIC, "public alone: " + m);
            names.add(m.getName());
            found.add(signature(m));
        }
        must(found.equals(told), "methods " + found);
        for (Class<?> inner : c.getDeclaredClasses()) {
            must(Modifier.isStatic(inner.getModifiers()) && !Modifier.isPublic(inner.getModifiers()), "" + inner);
            hidden.addAll(List.of(inner.getDeclaredMethods()));
        }
        for (Method m : hidden) {
            must(!names.contains(m.getName()), "bears a public name: " + m);
        }
        must(c.getDeclaredConstructors().length == 1, "one constructor");
        for (Constructor<?> k : c.getDeclaredConstructors()) {
            must(k.getModifiers() == Modifier.PUBLIC && k.getParameterCount() == 0, "" + k);
        }
        TreeSet<String> constants = new TreeSet<>();
        for (Field f : c.getDeclaredFields()) {
            if (Modifier.isPrivate(f.getModifiers())) continue;
            constants.add(f.getName());
            int due = Modifier.PUBLIC | Modifier.STATIC | Modifier.FINAL;
            must(((Member) f).getModifiers() == due && f.getType() == int.class, "" + f);
        }
        must(constants.equals(new TreeSet<>(List.of("UNKNOWN", "OUTSIDE", "STATE", "FULL", "NONE"))), "" + constants);
    }

    private static String signature(Method m) {
        List<String> types = new ArrayList<>();
        for (Class<?> type : m.getParameterTypes()) {
            types.add(type.getName());
        }
        return m.getReturnType().getName() + " " + m.getName() + "(" + String.join(", ", types) + ")";
    }

    private static void words(String source) {
        String code = source.replaceAll("(?s)/\\*.*?\\*/", "").replaceAll("//[^\n]*", "");
        Matcher m = Pattern.compile("\\b(throw|throws|try|catch|synchronized|assert|import|package|System\\.(?!arraycopy)\\w+"
            + "|Random|Thread|hashCode|equals|toString|\\w+Exact)\\b|->|::|\"|@").matcher(code);
        while (m.find()) {
            must(false, "LANGUAGE.md bars " + m.group());
        }
    }

    /** Of most use behind a town: whatever the numbers, a call answers, and at the end nothing is out of bounds. */
    private static void anyNumbers() throws Exception {
        Random dice = new Random(1);
        int[] odd = {Integer.MIN_VALUE, -33, -32, -10, -2, -1, 0, 1, 2, 3, 5, 6, 7, 9, 10, 31, 32, 33, 60, 255, Integer.MAX_VALUE};
        for (int run = 0; run < 60; run++) {
            SafetyPins x = new SafetyPins();
            for (char letter : "SN0102N1212N2303N3411W09W28D03D15".toCharArray()) {
                x.write(letter);
            }
            if (run % 2 == 0) x.town();
            for (int call = 0; call < 450; call++) {
                Method[] all = SafetyPins.class.getMethods();
                Method m = all[dice.nextInt(all.length)];
                if (m.getDeclaringClass() != SafetyPins.class) continue;
                Object[] args = new Object[m.getParameterCount()];
                for (int i = 0; i < args.length; i++) {
                    int n = odd[dice.nextInt(odd.length)];
                    Class<?> type = m.getParameterTypes()[i];
                    args[i] = type == int.class ? (Object) n : type == long.class ? (Object) (n * 1000003L) : (Object) (n > 0);
                }
                m.invoke(x, args);
            }
            must(x.count(5) >= 0 && x.count(5) < 128 && x.count(9) <= 14 && x.count(0) <= 60, "bounds, run " + run);
        }
    }
}
