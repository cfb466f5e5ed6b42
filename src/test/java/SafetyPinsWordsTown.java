import java.io.IOException;
import java.lang.reflect.Method;
import java.lang.reflect.Modifier;
import java.nio.file.Files;
import java.nio.file.Path;
import java.util.ArrayList;
import java.util.List;
import java.util.Random;
import java.util.TreeSet;
import java.util.regex.Matcher;
import java.util.regex.Pattern;

/** Promises 1 to 7: the face, and what the words of the text and of the town mean wherever they are used. */
final class SafetyPinsWordsTown extends SafetyPinsWords {
    private static String program() throws IOException {
        return Files.readString(Path.of("src/main/java/SafetyPins.java"));
    }

    private static void must(boolean holds, String what) {
        if (!holds) {
            fault(what);
        }
    }

    // ---- promise 1

    private static String signature(Method method) {
        List<String> types = new ArrayList<>();
        for (Class<?> type : method.getParameterTypes()) {
            types.add(type.getName());
        }
        return method.getReturnType().getName() + " " + method.getName() + "(" + String.join(", ", types) + ")";
    }

    /** "public int pin(int pin, int what)" is "int pin(int, int)". */
    private static String withoutNames(String told) {
        return told.replaceFirst("^public ", "").replaceAll("(int|long|boolean) \\w+([,)])", "$1$2");
    }

    private static TreeSet<String> publicCalls() {
        TreeSet<String> calls = new TreeSet<>();
        for (Method method : SafetyPins.class.getDeclaredMethods()) {
            if (!Modifier.isPrivate(method.getModifiers()) && !method.isSynthetic()) {
                calls.add(signature(method));
            }
        }
        return calls;
    }

    static void p01_theFaceAsTold() throws Exception {
        String face = SafetyPinsDocument.section(SafetyPinsDocument.FACE);
        String head = "public final class SafetyPins {";
        sentence(1, head);
        must(program().contains("\n" + head), "the class is not " + head);
        TreeSet<String> told = new TreeSet<>();
        for (String member : face.substring(face.indexOf('{') + 1, face.indexOf('}')).split(";")) {
            if (member.isBlank()) {
                continue;
            }
            sentence(1, member.trim());
            String inProgram = "    " + member.trim() + (member.contains("(") ? " {" : ";");
            must(program().contains("\n" + inProgram), "the program has no " + inProgram.trim());
            if (member.contains("(") && !member.contains("SafetyPins(")) {
                told.add(withoutNames(member.trim()));
            }
        }
        must(told.size() == 29, told.size() + " calls are told");
        must(told.equals(publicCalls()), "the calls are " + publicCalls());
        must(SafetyPins.class.getDeclaredConstructors().length == 1, "constructors");
        must(SafetyPins.class.getFields().length == 5, "constants");
        must(SafetyPins.class.getClasses().length == 0, "public classes inside");
    }

    static void p01_callsOfThePromises() {
        sentence(1, "`SafetyPins()`:");
        for (int promise = 2; promise <= 30; promise++) {
            String section = SafetyPinsDocument.promise(promise);
            String call = section.substring(section.indexOf('`') + 1, section.indexOf("`:"));
            sentence(promise, "`" + call + "`:");
            must(publicCalls().contains(withoutNames(call)), "there is no " + call);
        }
    }

    static void p01_whatTheInterfaceSaysAhead() throws Exception {
        sentence(1, "Ahead of the calls");
        String[] parts = program().split("\n    // (?=---- )");
        Matcher told = Pattern.compile("Ahead of the calls (.*?) the interface says: (---- .*?)\\.")
            .matcher(SafetyPinsDocument.section("Terms"));
        int part = 0;
        while (told.find()) {
            part++;
            sentence(1, told.group());
            List<String> calls = new ArrayList<>();
            Matcher call = Pattern.compile("\n    public \\w+ (\\w+)\\(").matcher(parts[part]);
            while (call.find()) {
                calls.add("`" + call.group(1) + "`");
            }
            must(parts[part].startsWith(told.group(2) + "\n"), "there it says " + parts[part].split("\n")[0]);
            must(told.group(1).equals(String.join(", ", calls)), "behind it stand " + calls);
        }
        must(part == 6, "parts of the interface: " + part);
    }

    static void p01_theFirstThatACallNames() {
        sentence(1, "REFUSALS, of several the first that a call names: UNKNOWN (there is no such THING (0 to 5), PIN, SLOT), "
            + "OUTSIDE (another number is not as told), STATE (as told), FULL.");
        SafetyPinsCounted x = crowded();
        due("write(256), full", x.write(256), OUTSIDE);
        due("write(65), full", x.write(65), FULL);
        due("trial(13, 1), full", x.trial(13, 1), OUTSIDE);
        due("trial(1, 2), full", x.trial(1, 2), OUTSIDE);
        due("trial(1, 1), full", x.trial(1, 1), FULL);
        due("town(), a fault", x.town(), STATE);
        due("pin(7, 7)", x.pin(7, 7), UNKNOWN);
        due("pin(6, 7)", x.pin(6, 7), OUTSIDE);
        due("tug(6, 0)", x.tug(6, 0), UNKNOWN);
        due("tug(5, 0)", x.tug(5, 0), OUTSIDE);
        due("cuts(6, 6)", x.cuts(6, 6), UNKNOWN);
        due("cuts(5, 5)", x.cuts(5, 5), OUTSIDE);
        for (int what : new int[] {-1, 0, 1, 2}) {
            due("parts(5, 6, " + what + ")", x.parts(5, 6, what), UNKNOWN);
            due("parts(6, 6, " + what + ")", x.parts(6, 6, what), UNKNOWN);
            due("parts(5, 5, " + what + ")", x.parts(5, 5, what), OUTSIDE);
            due("rests(-1, 5, " + what + ")", x.rests(-1, 5, what), UNKNOWN);
            due("rests(5, 5, " + what + ")", x.rests(5, 5, what), OUTSIDE);
        }
        due("gives(6, 6, 11, true)", x.gives(6, 6, 11, true), UNKNOWN);
        due("gives(5, 5, 11, false)", x.gives(5, 5, 11, false), OUTSIDE);
        due("judge(5, -1)", x.judge(5, -1), OUTSIDE);
        due("shut(7)", x.shut(7), UNKNOWN);
        due("open(7)", x.open(7), UNKNOWN);
        due("lasts(7)", x.lasts(7), UNKNOWN);
        due("chain(7)", x.chain(7), UNKNOWN);
        due("share(7, true)", x.share(7, true), UNKNOWN);
        due("keep(2)", x.keep(2), UNKNOWN);
        due("again(2)", x.again(2), UNKNOWN);
    }

    static void p01_sixThings() {
        sentence(1, "THINGS are 0 to 5.");
        SafetyPinsCounted x = of("SN0100N1200N2300N3400N4500");
        int all = 0;
        for (int thing = 0; thing <= 5; thing++) {
            all |= 1 << thing;
            due("tug(" + thing + ", 1)", x.tug(thing, 1), 5);
            due("with(" + thing + "), each alone", x.with(thing), 1 << thing);
            x.undo();
        }
        due("with(0), all of them", x.with(0), all);
        due("count(7), pairs of six", x.count(7), 6 * 5 / 2);
        due("with(6)", x.with(6), UNKNOWN);
        due("tug(6, 1)", x.tug(6, 1), UNKNOWN);
        due("cuts(5, 6)", x.cuts(5, 6), UNKNOWN);
        due("parts(6, 5, 0)", x.parts(6, 5, 0), UNKNOWN);
        due("rests(5, 6, 0)", x.rests(5, 6, 0), UNKNOWN);
        due("gives(6, 5, 0, true)", x.gives(6, 5, 0, true), UNKNOWN);
        due("judge(1, 466): not so", x.judge(1, 466), 0);
        due("judge(1, 455): so", x.judge(1, 455), NONE);
        due("judge(1, 161): can not be", x.judge(1, 161), 0);
        due("judge(1, 151): can be", x.judge(1, 151), NONE);
    }

    // ---- promises 2 and 3

    static void p02_theTextAlone() {
        sentence(2, "A letter (0 to 255) comes behind THE TEXT");
        everywhere(8, (where, scene) -> {
            SafetyPinsCounted x = scene.make();
            String text = "SN2350D45";
            x.tell("W");
            due("write(0) " + where, x.write(0), 2);
            due("write(255) " + where, x.write(255), 3);
            sameAs(scene.make().tell(text), "another text " + where, x.tell(text));
        });
        SafetyPinsCounted y = of("SN0110N1210").tell("SN");
        due("fault(), not at its end", y.fault(), 2);
        for (char letter : "0192".toCharArray()) {
            y.write(letter);
        }
        due("fault(), the letters came behind", y.fault(), NONE);
        due("count(1), the town is as it was", y.count(1), 2);
        due("town()", y.town(), 100);
        due("pin(0, 2)", y.pin(0, 2), 9);
    }

    static void p03_theTextAlone() {
        sentence(3, "THE TEXT is empty");
        everywhere(8, (where, scene) -> {
            SafetyPinsCounted x = scene.make();
            int length = x.count(0);
            due("wipe() " + where, x.wipe(), length);
            due("count(0) " + where, x.count(0), 0);
            due("wipe() once more " + where, x.wipe(), 0);
            sameAs(scene.make().tell("SD01"), "a text wiped and another " + where, x.tell("SD01"));
        });
    }

    // ---- promise 4

    /** Whether some town begins so: what is left of a part then is four letters at most, figures 0 and 1 are enough. */
    private static boolean canBeATown(String head) {
        if (head.isEmpty()) {
            return true;
        }
        for (int length = 0; length <= 4; length++) {
            for (int figures = 0; figures < 1 << length; figures++) {
                StringBuilder text = new StringBuilder(head);
                for (int i = 0; i < length; i++) {
                    text.append(figures >> i & 1);
                }
                if (fresh().tell(text.toString()).town() >= 0) {
                    return true;
                }
            }
        }
        return false;
    }

    static void p04_theFirstLetterByWhich() {
        sentence(4, "FAULT: the place (from 0 on) of the first letter by which THE TEXT can be no TOWN");
        sentence(4, "FAULT; NONE.");
        Random dice = new Random(4);
        for (int i = 0; i < 300; i++) {
            StringBuilder text = new StringBuilder(townByLot(dice));
            if (dice.nextInt(4) != 0) {
                text.setCharAt(dice.nextInt(text.length()), "SNWDnwd0123456789:/ ".charAt(dice.nextInt(20)));
            }
            text.setLength(Math.min(56, dice.nextInt(3) == 0 ? dice.nextInt(text.length() + 1) : text.length()));
            SafetyPinsCounted x = fresh().tell(text.toString());
            int fault = x.fault();
            int sound = fault == NONE ? text.length() : fault;
            String told = "fault() of \"" + text + "\" is " + fault;
            must(canBeATown(text.substring(0, sound)), told + ", but no town begins so far");
            must(sound == text.length() || !canBeATown(text.substring(0, sound + 1)), told + ", but some town begins so");
            must((x.town() >= 0) == (fault == NONE), told + ", town() says otherwise");
        }
    }

    static void p04_nothingIsChanged() {
        sentence(4, "FAULT; NONE.");
        changesNothingAnywhere("fault()", SafetyPinsCounted::fault);
    }

    // ---- promise 5

    static void p05_partsAsTold() {
        sentence(5, ": Nabsk a PIN between THING a and THING b");
        sentence(5, " Wxp a PULL of p");
        sentence(5, " Dxy a DEED for which");
        SafetyPinsCounted x = of("SN5073D53W47N3291D20W20");
        int[][] pins = {{5, 0, 7, SPRUNG}, {3, 2, 9, BRASS}};
        for (int pin = 0; pin <= 1; pin++) {
            for (int what = 0; what <= 3; what++) {
                due("pin(" + pin + ", " + what + "), as told", x.pin(pin, what), pins[pin][what]);
            }
        }
        due("count(6), both deeds", x.count(6), 3);
        due("judge(2): 5 and 0 together, deed 0", x.judge(2, 450500), NONE);
        due("letsGo(3)", x.letsGo(3), 0);
        SafetyPinsCounted y = of("SN5300D53N0200D20W50W01");
        due("count(6), none", y.count(6), 0);
        due("letsGo(1), the pin of 5 and 3", y.letsGo(1), 1);
        due("letsGo(2), the pin of 2 and 0", y.letsGo(2), 2);
        due("later(1), a pull of 0 at 5", y.later(1), 0);
        due("later(2), a pull of 1 at 0", y.later(2), 2);
    }

    static void p05_onlyWhenTheTownIsMade() {
        sentence(5, "THE TEXT (that stays as it is) is THE TOWN");
        everywhere(8, (where, scene) -> {
            SafetyPinsCounted x = scene.make();
            int pins = x.count(1);
            x.tell("SN3422W31D34");
            due("count(1), the text alone does nothing " + where, x.count(1), pins);
            long seed = x.seed(3);
            int tried = x.count(10);
            due("town() " + where, x.town(), 111);
            due("seed(0) " + where, x.seed(0), 3);
            x.seed(seed);
            due("count(10) " + where, x.count(10), tried);
            SafetyPinsCounted y = fresh();
            y.tell("SN3422W31D34").town();
            y.seed(seed);
            triedAlike(x, y);
            sameAs(y, "town() " + where, x);
        });
    }

    /** What is tried can't be told back: nothing is, in both of them. */
    private static void triedAlike(SafetyPinsCounted x, SafetyPinsCounted y) {
        x.untry();
        y.untry();
    }

    // ---- promise 6

    static void p06_shutOrOpen() {
        sentence(6, "A PIN is SHUT, or OPEN.");
        everywhere(20, (where, scene) -> {
            Pins pins = pinsOf(scene.make());
            SafetyPinsCounted x = scene.make();
            due("count(5) " + where, x.count(5), pins.open());
            for (int pin = 0; pin < pins.number(); pin++) {
                String told = "(" + pin + ") " + where;
                due("pin(.., 6) " + told, x.pin(pin, 6), pins.isOpen(pin) ? 1 : 0);
                due("shut" + told, scene.make().shut(pin) == STATE ? 0 : 1, pins.isOpen(pin) ? 1 : 0);
                due("open" + told, scene.make().open(pin) == STATE ? 1 : 0, pins.isOpen(pin) ? 1 : 0);
                due("lasts" + told, x.lasts(pin) == STATE ? 1 : 0, pins.isOpen(pin) ? 1 : 0);
                due("chain" + told, x.chain(pin) == STATE ? 1 : 0, pins.isOpen(pin) ? 1 : 0);
                due("judge shut" + told, x.judge(1, 200 + pin) == NONE ? 1 : 0, pins.isOpen(pin) ? 1 : 0);
                due("judge open" + told, x.judge(1, 300 + pin) == NONE ? 1 : 0, pins.isOpen(pin) ? 0 : 1);
            }
        });
    }

    private static int held(int strength, int kind, int worn) {
        return kind == BRASS ? strength + 3 : kind == RUSTY ? Math.max(0, strength - worn) : strength;
    }

    static void p06_holdsWhereverItIsUsed() {
        sentence(6, "A PIN HOLDS as much as: PLAIN, SPRUNG: its STRENGTH; BRASS: that, and 3; RUSTY: that, less its WEAR (0 at least).");
        for (int kind = PLAIN; kind <= SPRUNG; kind++) {
            for (int strength = 0; strength <= 9; strength++) {
                for (int worn = 0; worn <= (kind == RUSTY ? strength : 0); worn++) {
                    String town = "SN01" + strength + kind + "W01D01";
                    int days = worn;
                    holds(() -> afterDays(town, days), town + " after " + days + " days", held(strength, kind, worn));
                }
            }
        }
    }

    private static SafetyPinsCounted afterDays(String town, int days) {
        SafetyPinsCounted x = of(town);
        days(x, days);
        return x;
    }

    private static void holds(Scene scene, String where, int holds) {
        SafetyPinsCounted x = scene.make();
        due("pin(0, 4) of " + where, x.pin(0, 4), holds);
        for (int n = 1; n <= 9; n++) {
            int gives = n > holds ? 1 : 0;
            due("tug(1, " + n + ") of " + where, scene.make().tug(1, n), gives);
            due("judge, a tug of " + n + ", of " + where, x.judge(2, 1000 * (110 + n) + 401), gives == 1 ? 1 : NONE);
        }
        due("day() of " + where, scene.make().day(), 1 > holds ? 1 : 0);
        due("later(1) of " + where, x.later(1), 1 > holds ? 1 : 0);
        due("lasts(0) of " + where, x.lasts(0) == 1 ? 1 : 0, 1 > holds ? 1 : 0);
        due("parts(0, 1, 0) of " + where, x.parts(0, 1, 0), holds >= 9 ? NONE : holds + 1);
        due("rests(1, 0, 0) of " + where, x.rests(1, 0, 0), holds >= 12 ? 1 : holds >= 9 ? 2 : holds >= 6 ? 3 : holds >= 3 ? 4 : 2);
        x.seed(seedFor(0));
        due("seasons(1), a tug of 4, of " + where, x.seasons(1), 4 > holds ? 1 : 0);
    }

    static void p06_asTheTownIsTold() {
        sentence(6, "Of a PIN one end as told (what = 0), the other one (1), STRENGTH (2), KIND (3), how much it HOLDS (4), WEAR (5)");
        everywhere(20, (where, scene) -> {
            SafetyPinsCounted x = scene.make();
            for (int pin = 0; pin < x.count(1); pin++) {
                int want = held(x.pin(pin, 2), x.pin(pin, 3), x.pin(pin, 5));
                due("pin(" + pin + ", 4) " + where, x.pin(pin, 4), want);
                due("pin(" + pin + ", 5) but of rusty ones " + where, x.pin(pin, 3) == RUSTY ? 0 : x.pin(pin, 5), 0);
            }
        });
        for (int what = 0; what <= 6; what++) {
            int about = what;
            changesNothingAnywhere("pin(1, " + what + ")", x -> x.pin(1, about));
        }
    }

    // ---- promise 7

    static void p07_thingsTogetherWithOne() {
        sentence(7, "THINGS that are TOGETHER with one (bits; itself as well).");
        Scene whole = () -> of(WHOLE_TOWN);
        for (int open = 0; open <= 127; open++) {
            together("with " + open + " open", opened(whole, open));
        }
        everywhere(30, (where, scene) -> together(where, scene.make()));
    }

    private static void together(String where, SafetyPinsCounted x) {
        Pins pins = pinsOf(x);
        int pairs = 0;
        for (int thing = 0; thing <= 5; thing++) {
            int want = pins.company(thing, pins.open());
            due("with(" + thing + ") " + where, x.with(thing), want);
            pairs += Integer.bitCount(want) - 1;
            for (int other = 0; other <= 5; other++) {
                boolean is = (want >> other & 1) == 1;
                due("judge(1, 4 " + thing + " " + other + ") " + where, x.judge(1, 400 + 10 * thing + other), is ? NONE : 0);
                if (other != thing) {
                    due("cuts(" + thing + ", " + other + ") is 0 " + where, x.cuts(thing, other) == 0 ? 1 : 0, is ? 0 : 1);
                    due("parts(" + thing + ", " + other + ", 0) is 0 " + where, x.parts(thing, other, 0) == 0 ? 1 : 0, is ? 0 : 1);
                    due("gives(.., 0) of " + thing + " and " + other + " " + where, x.gives(thing, other, 0, true), is ? 1 : 0);
                }
            }
        }
        due("count(7), twice, " + where, 2 * x.count(7), pairs);
    }

    static void p07_nothingIsChanged() {
        sentence(7, "THINGS that are TOGETHER with one");
        for (int thing = 0; thing <= 5; thing++) {
            int of = thing;
            changesNothingAnywhere("with(" + thing + ")", x -> x.with(of));
        }
    }
}
