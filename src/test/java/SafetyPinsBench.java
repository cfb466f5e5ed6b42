import java.util.TreeSet;

/** What the tests of the sentences share: sentences, scenes, refusals that must change nothing. */
abstract class SafetyPinsBench {
    static final int UNKNOWN = -1, OUTSIDE = -2, STATE = -3, FULL = -4, NONE = -9;
    static final int LEAST = Integer.MIN_VALUE, MOST = Integer.MAX_VALUE;

    /** Each is told in the document: 7 pins, 4 pulls, 3 deeds. */
    static final String WHOLE_TOWN = "SN0132N1252N2303N3411N4520N5042N0290W03W12W21W39D03D14D25";

    interface Scene {
        SafetyPinsCounted make();
    }

    interface Call {
        long of(SafetyPinsCounted x);
    }

    interface CallOfOne {
        long of(SafetyPinsCounted x, int number);
    }

    interface CallOfTwo {
        long of(SafetyPinsCounted x, int first, int second);
    }

    private static int promise = 0;
    private static String sentence = null;
    private static final TreeSet<Integer> promises = new TreeSet<>();
    private static int wrong = 0;

    static int wrong() {
        return wrong;
    }

    static TreeSet<Integer> promisesMet() {
        return promises;
    }

    // ---- sentences

    /** What the test stands for: a promise's number, and words of the document as they are told there. */
    static void sentence(int number, String words) {
        promise = number;
        sentence = words;
        promises.add(number);
        if (!SafetyPinsDocument.meet(number, words)) {
            fault("the document does not say this, or not there");
        }
    }

    static void newTest() {
        promise = 0;
        sentence = null;
    }

    static void mustHaveSentence(String test) {
        if (sentence == null) {
            fault(test + " names no sentence");
        }
    }

    static void fault(String what) {
        wrong++;
        System.out.println("promise " + promise + ", \"" + sentence + "\": " + what);
    }

    static void due(String call, long got, long want) {
        if (got != want) {
            fault(call + " answered " + got + ", due is " + want);
        }
    }

    // ---- scenes

    static SafetyPinsCounted of(String town) {
        SafetyPinsCounted x = new SafetyPinsCounted().tell(town);
        if (x.town() < 0) {
            fault("no town is " + town);
        }
        return x;
    }

    static SafetyPinsCounted fresh() {
        return new SafetyPinsCounted();
    }

    /** Two pins (1 is open), a pull, a deed; three acts; slot 1 kept, two tried; a text that is another town. */
    static SafetyPinsCounted half() {
        SafetyPinsCounted x = of("SN0152N1213W01D02");
        x.day();
        x.keep(1);
        x.open(1);
        x.tug(5, 9);
        x.trial(3, 0);
        x.trial(5, 1);
        x.seed(-8);
        return x.tell("SN2350D45");
    }

    /** All there can be at most: 60 letters, 7 pins, 4 pulls, 3 deeds, 14 acts, 6 tried, both slots. */
    static SafetyPinsCounted crowded() {
        SafetyPinsCounted x = of(WHOLE_TOWN);
        x.day();
        x.keep(0);
        days(x, 3);
        x.open(6);
        x.keep(1);
        days(x, 5);
        x.shut(6);
        days(x, 4);
        x.open(1);
        x.tug(3, 9);
        for (int p = 7; p <= 12; p++) {
            x.trial(p, p > 9 ? 1 : 0);
        }
        x.seed(Long.MIN_VALUE);
        x.write('N');
        x.write(0);
        x.write(255);
        return x;
    }

    /** The whole town two days on, all its pins but the last one shut, and some of them worn. */
    static SafetyPinsCounted stirred() {
        SafetyPinsCounted x = of(WHOLE_TOWN);
        x.keep(1);
        days(x, 2);
        x.open(6);
        x.trial(12, 1);
        x.seed(7);
        return x;
    }

    static void days(SafetyPinsCounted x, int n) {
        for (int i = 0; i < n; i++) {
            x.day();
        }
    }

    // ---- seeds

    static final long FACTOR = 6364136223846793005L;
    static final long ADDED = 1442695040888963407L;

    static long next(long seed) {
        return seed * FACTOR + ADDED;
    }

    /** The seed from which the next is this one. */
    static long before(long next) {
        long inverse = FACTOR;
        for (int round = 0; round < 6; round++) {
            inverse *= 2 - FACTOR * inverse;
        }
        return (next - ADDED) * inverse;
    }

    static int lotOf(long seed) {
        return (int) ((seed >>> 33) % 32);
    }

    /** A seed by which the next lots are these. */
    static long seedFor(int... lots) {
        for (long low = 0; low < 1000000; low++) {
            long first = ((long) lots[0] << 33) + low;
            long seed = first;
            boolean isSo = true;
            for (int i = 1; i < lots.length && isSo; i++) {
                seed = seed * FACTOR + ADDED;
                isSo = lotOf(seed) == lots[i];
            }
            if (isSo) {
                return before(first);
            }
        }
        throw new IllegalStateException("no such seed");
    }

    // ---- nothing changes

    /** All that an object holds, asked out of it by every call that shows some of it; it is used up by this. */
    static String digest(SafetyPinsCounted x) {
        StringBuilder all = new StringBuilder();
        look(x, all);
        long seed = x.seed(0);
        x.seed(seed);
        all.append("seed ").append(seed).append(" seasons ").append(x.seasons(30)).append(" undone");
        for (int act = 0; act < 15; act++) {
            all.append(' ').append(x.undo()).append('/').append(x.count(4)).append('/').append(x.count(5))
                .append('/').append(x.count(8));
        }
        for (int slot = 0; slot < 2; slot++) {
            all.append(" kept ").append(x.again(slot)).append('/').append(x.count(4)).append('/').append(x.count(5));
            for (int pin = 0; pin < 7; pin++) {
                all.append('/').append(x.pin(pin, 5));
            }
        }
        all.append(" anew ").append(x.town()).append(' ');
        look(x, all);
        return all.toString();
    }

    private static void look(SafetyPinsCounted x, StringBuilder all) {
        for (int what = 0; what <= 10; what++) {
            all.append(x.count(what)).append(' ');
        }
        for (int pin = 0; pin < x.count(1); pin++) {
            all.append("pin");
            for (int what = 0; what <= 6; what++) {
                all.append(' ').append(x.pin(pin, what));
            }
        }
        all.append(" fault ").append(x.fault()).append(" later");
        for (int n = 1; n <= 5; n++) {
            all.append(' ').append(x.later(n));
        }
        all.append(" lets go");
        for (int deeds = 1; deeds <= 7; deeds++) {
            all.append(' ').append(x.letsGo(deeds));
        }
        all.append(" which ").append(x.which(0)).append(' ').append(x.which(1)).append(' ');
    }

    /** The call answers so, and what holds behind it is what holds without it. */
    static void answersAndChangesNothing(Scene scene, String call, Call c, long want) {
        SafetyPinsCounted with = scene.make();
        due(call, c.of(with), want);
        sameAs(scene.make(), call, with);
    }

    static void changesNothing(Scene scene, String call, Call c) {
        SafetyPinsCounted with = scene.make();
        c.of(with);
        sameAs(scene.make(), call, with);
    }

    static void changesNothingAnywhere(String call, Call c) {
        changesNothing(SafetyPinsBench::fresh, "on a new object, " + call, c);
        changesNothing(SafetyPinsBench::half, "on half a town, " + call, c);
        changesNothing(SafetyPinsBench::stirred, "on a whole town, " + call, c);
        changesNothing(SafetyPinsBench::crowded, "on a crowded one, " + call, c);
    }

    static void sameAs(SafetyPinsCounted want, String call, SafetyPinsCounted got) {
        String due = digest(want);
        String is = digest(got);
        if (!due.equals(is)) {
            fault(call + " left\n  " + is + "\n  due is\n  " + due);
        }
    }

    static void refusedAlways(long want, String call, Call c) {
        answersAndChangesNothing(SafetyPinsBench::fresh, "on a new object, " + call, c, want);
        answersAndChangesNothing(SafetyPinsBench::half, "on half a town, " + call, c, want);
        answersAndChangesNothing(SafetyPinsBench::crowded, "on a whole town, " + call, c, want);
    }

    static void refusedFor(long want, String call, CallOfOne c, int... numbers) {
        for (int number : numbers) {
            refusedAlways(want, call + " of " + number, x -> c.of(x, number));
        }
    }

    // ---- there is no such thing, pin, slot

    private static void taken(String call, Scene scene, Call c) {
        if (c.of(scene.make()) == UNKNOWN) {
            fault(call + " is UNKNOWN");
        }
    }

    static void knowsThings(String call, CallOfOne c) {
        refusedFor(UNKNOWN, call, c, -1, 6, 7, 31, 32, -32, LEAST, MOST);
        for (int thing = 0; thing <= 5; thing++) {
            int there = thing;
            taken(call + " of " + thing, SafetyPinsBench::fresh, x -> c.of(x, there));
            taken(call + " of " + thing, SafetyPinsBench::crowded, x -> c.of(x, there));
        }
    }

    static void knowsTwoThings(String call, CallOfTwo c) {
        for (int thing : new int[] {0, 5}) {
            knowsThings(call + " of " + thing + " and then", (x, other) -> c.of(x, thing, other));
            knowsThings(call + " of another and then " + thing, (x, other) -> c.of(x, other, thing));
        }
        for (int none : new int[] {-1, 6, LEAST, MOST}) {
            refusedAlways(UNKNOWN, call + " of " + none + " twice", x -> c.of(x, none, none));
            refusedAlways(UNKNOWN, call + " of 6 and " + none, x -> c.of(x, 6, none));
        }
        for (int thing = 0; thing <= 5; thing++) {
            int both = thing;
            refusedAlways(OUTSIDE, call + " of " + thing + " twice", x -> c.of(x, both, both));
        }
    }

    static void knowsPins(String call, CallOfOne c) {
        refusedFor(UNKNOWN, call, c, -1, 7, 8, 31, 32, -32, LEAST, MOST);
        answersAndChangesNothing(SafetyPinsBench::fresh, call + " of 0, none yet", x -> c.of(x, 0), UNKNOWN);
        answersAndChangesNothing(SafetyPinsBench::half, call + " of 2, of two pins", x -> c.of(x, 2), UNKNOWN);
        taken(call + " of 1, of two pins", SafetyPinsBench::half, x -> c.of(x, 1));
        for (int pin = 0; pin <= 6; pin++) {
            int there = pin;
            taken(call + " of " + pin, SafetyPinsBench::crowded, x -> c.of(x, there));
        }
        answersAndChangesNothing(() -> twoForSeven(), call + " of 2, that was", x -> c.of(x, 2), UNKNOWN);
    }

    /** A town of two pins where there were seven. */
    private static SafetyPinsCounted twoForSeven() {
        SafetyPinsCounted x = of(WHOLE_TOWN).tell("SN0110N1210");
        x.town();
        return x;
    }

    static void knowsSlots(String call, CallOfOne c) {
        refusedFor(UNKNOWN, call, c, -1, 2, 3, 32, -32, LEAST, MOST);
        taken(call + " of 0", SafetyPinsBench::crowded, x -> c.of(x, 0));
        taken(call + " of 1", SafetyPinsBench::crowded, x -> c.of(x, 1));
    }
}
