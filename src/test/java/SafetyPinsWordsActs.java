import java.util.ArrayDeque;
import java.util.Arrays;
import java.util.Deque;
import java.util.Random;

/** Promises 8 to 12, 28 and 29: the order of a day, what acts leave as it was, the row and the slots in long runs. */
final class SafetyPinsWordsActs extends SafetyPinsWords {

    /** Open pins, the day, and the wear of each: all that acts can change. */
    private static String plight(SafetyPinsCounted x) {
        return x.count(5) + " day " + x.count(4) + " wear " + Arrays.toString(wearOf(x));
    }

    private static String plight(int open, int day, int[] wear) {
        return open + " day " + day + " wear " + Arrays.toString(wear);
    }

    private static void same(String call, String got, String want) {
        if (!got.equals(want)) {
            fault(call + " left " + got + ", due is " + want);
        }
    }

    // ---- promise 8

    private static int ofKind(Pins pins, int kind) {
        int bits = 0;
        for (int pin = 0; pin < pins.number(); pin++) {
            bits |= pins.kind()[pin] == kind ? 1 << pin : 0;
        }
        return bits;
    }

    /** A day as the document tells it, of an object whose pulls are these. */
    private static void aDay(String where, SafetyPinsCounted x, int[][] pulls) {
        Pins pins = pinsOf(x);
        int[] wear = wearOf(x);
        int day = x.count(4);
        int shutAgain = pins.open() & ~ofKind(pins, SPRUNG);
        int[] loads = new int[6];
        if (pulls.length > 0) {
            int[] pull = pulls[day % pulls.length];
            loads[pull[0]] = pull[1];
        }
        int open = pins.pings(shutAgain, loads);
        for (int pin = 0; pin < pins.number(); pin++) {
            boolean isShutRusty = pins.kind()[pin] == RUSTY && (open >> pin & 1) == 0;
            wear[pin] += isShutRusty && loads[pins.one()[pin]] + loads[pins.other()[pin]] >= 1 ? 1 : 0;
        }
        due("later(1) " + where, x.later(1), open);
        due("day() " + where, x.day(), Integer.bitCount(open) - Integer.bitCount(shutAgain));
        same("day() " + where, plight(x), plight(open, day + 1, wear));
    }

    static void p08_aDayAsTold() {
        sentence(8, "A DAY: SPRUNG PINS are SHUT again; the LOAD of the THING of THE DAY's PULL (that which is left of it by how many "
            + "there are) is p, of others 0 (none: 0); PINGS by these; then each RUSTY PIN that is SHUT, and of which the LOADS of "
            + "both ends, as they are then, together are 1 or more, has 1 more WEAR; THE DAY is one more.");
        int[][] all = {{0, 4}, {2, 3}, {4, 5}, {5, 2}};
        String told = "W04W23W45W52";
        Random dice = new Random(8);
        for (int lot = 1; lot <= 60; lot++) {
            int pulls = dice.nextInt(5);
            String town = townByLot(dice).replaceAll("[WD]..", "") + told.substring(0, 3 * pulls);
            SafetyPinsCounted x = of(town);
            for (int day = 1; day <= 6; day++) {
                aDay("number " + day + " of " + town, x, Arrays.copyOf(all, pulls));
                if (dice.nextBoolean() && x.count(1) > 0) {
                    x.open(dice.nextInt(x.count(1)));
                }
            }
        }
    }

    static void p08_sprungShutBeforeThePings() {
        sentence(8, "A DAY: SPRUNG PINS are SHUT again;");
        SafetyPinsCounted x = of("SN0103N1200W01");
        x.open(0);
        due("day(), it is shut, gives, and brings 1 to the next", x.day(), 2);
        due("count(5)", x.count(5), 3);
        SafetyPinsCounted y = of("SN0103N0192N1292W01");
        y.open(0);
        due("day(), it gives", y.day(), 1);
        due("pin(1, 5), worn by 3", y.pin(1, 5), 1);
        due("pin(2, 5), by what it brings", y.pin(2, 5), 1);
        SafetyPinsCounted held = of("SN0193N1292W01");
        held.open(0);
        due("day(), it holds", held.day(), 0);
        due("with(0), together again", held.with(0), 7);
        due("pin(1, 5), it brought nothing", held.pin(1, 5), 0);
    }

    static void p08_wearBehindThePings() {
        sentence(8, "PINGS by these; then each RUSTY PIN that is SHUT");
        SafetyPinsCounted x = of("SN0112W01");
        due("day() 1, it holds 1", x.day(), 0);
        due("pin(0, 4), worn behind it", x.pin(0, 4), 0);
        due("day() 2", x.day(), 1);
        due("pin(0, 5), no more of it", x.pin(0, 5), 1);
        SafetyPinsCounted twice = of("SN0132N0200W02");
        due("day(), 3 are not more than 3", twice.day(), 1);
        due("pin(0, 5), 1 more, not 3", twice.pin(0, 5), 1);
        due("day(), 2 are not more than 2", twice.day(), 0);
        due("day(), 2 are more than 1", twice.day(), 1);
    }

    static void p08_allAtOnce() {
        sentence(8, "PINGS, by LOADS of THINGS: again and again, till there is none: all SHUT PINS at once for which the LOADS of "
            + "both its ends together are more than it HOLDS are OPEN; then for each of these the LOADS of both its ends are 1 more.");
        due("day(), two at once bring 2 to each end", of("SN0100N0100N0141W01").day(), 2);
        due("day(), 5 are more than 4", of("SN0100N0100N0111W01").day(), 3);
        due("day(), two ends of one thing", of("SN0100N0200N0340W01").day(), 2);
        due("day(), 3 are more than 2", of("SN0100N0200N0320W01").day(), 3);
        due("tug(0, 1), round a ring", of("SN0100N1200N2300N3400N4500N5000").tug(0, 1), 6);
        due("tug(0, 1), a ring that holds one", of("SN0100N1200N2380N3400N4500N5000").tug(0, 1), 5);
        due("tug(0, 1), both ways meet", of("SN0100N1200N2320N3400N4500N5000").tug(0, 1), 5);
        due("tug(0, 1), and are enough", of("SN0100N1200N2310N3400N4500N5000").tug(0, 1), 6);
    }

    static void p08_theDayIsOneMore() {
        sentence(8, "; THE DAY is one more.");
        everywhere(10, (where, scene) -> {
            SafetyPinsCounted x = scene.make();
            int day = x.count(4);
            for (int passed = 1; passed <= 5; passed++) {
                x.day();
                due("count(4) " + where, x.count(4), day + passed);
                due("keep(0) " + where, x.keep(0), day + passed);
            }
            int thing = 0;
            x.tug(thing, 1);
            due("count(4), no day by a tug " + where, x.count(4), day + 5);
        });
    }

    // ---- promise 9

    static void p09_pingsByThese() {
        sentence(9, "TUGGED: the LOAD of a THING is n (1 to 9), of others 0; PINGS by these (no WEAR).");
        everywhere(30, (where, scene) -> {
            for (int n = 1; n <= 9; n += 2) {
                SafetyPinsCounted x = scene.make();
                for (int thing = 0; thing <= 5; thing++) {
                    Pins pins = pinsOf(x);
                    int day = x.count(4);
                    int[] wear = wearOf(x);
                    int[] loads = new int[6];
                    loads[thing] = n;
                    int open = pins.pings(pins.open(), loads);
                    String call = "tug(" + thing + ", " + n + ") " + where;
                    due(call, x.tug(thing, n), Integer.bitCount(open & ~pins.open()));
                    if (pins.number() <= 5) {
                        same(call, plight(x), plight(open, day, wear));
                    }
                    x.undo();
                }
            }
        });
    }

    // ---- promises 10 and 11

    static void p10_thatPinAlone() {
        sentence(10, "DONE BY HAND: a PIN is SHUT (its WEAR is 0 then), or OPENED (nothing else follows).");
        everywhere(30, (where, scene) -> {
            Pins pins = pinsOf(scene.make());
            for (int pin = 0; pin < pins.number(); pin++) {
                SafetyPinsCounted x = scene.make();
                int[] wear = wearOf(x);
                int day = x.count(4);
                int bit = 1 << pin;
                int open = pins.open() ^ bit;
                if (pins.isOpen(pin)) {
                    wear[pin] = 0;
                    due("shut(" + pin + ") " + where, x.shut(pin), Integer.bitCount(open));
                } else {
                    due("open(" + pin + ") " + where, x.open(pin), Integer.bitCount(open));
                }
                same("by hand, pin " + pin + " " + where, plight(x), plight(open, day, wear));
            }
        });
    }

    static void p11_nothingElseFollowsAnywhere() {
        sentence(11, "OPENED (nothing else follows)");
        String loose = "SN0190N0100N1200N0203D12";
        SafetyPinsCounted x = of(loose);
        due("open(0)", x.open(0), 1);
        due("count(5), its neighbours hold nothing and stay", x.count(5), 1);
        due("with(0)", x.with(0), 7);
        x.undo();
        due("judge(3): opened, its neighbour still together", x.judge(3, 300401412L), NONE);
        due("cuts(0, 1): each by hand", x.cuts(0, 1), 7);
        due("letsGo(1): the least of 2 and 4, 1 and 2 and 8", x.letsGo(1), 12);
        x.seed(seedFor(13));
        due("seasons(1), opened alone", x.seasons(1), 1);
        due("chain(0), there it pings", x.chain(0), 15);
    }

    // ---- promise 12

    static void p12_undoneEverywhere() {
        sentence(12, "the last one can be undone.");
        everywhere(12, (where, scene) -> {
            Pins pins = pinsOf(scene.make());
            undone(where, scene, "day()", SafetyPinsCounted::day);
            undone(where, scene, "tug(1, 9)", x -> x.tug(1, 9));
            undone(where, scene, "tug(2, 1)", x -> x.tug(2, 1));
            for (int pin = 0; pin < pins.number(); pin++) {
                int it = pin;
                undone(where, scene, "pin " + pin + " by hand", x -> pins.isOpen(it) ? x.shut(it) : x.open(it));
            }
        });
    }

    /** What an act leaves as it was is seen too: undo gives back neither text, town, tried, seed nor slots. */
    private static void undone(String where, Scene scene, String act, Call c) {
        SafetyPinsCounted x = scene.make();
        int row = x.count(9);
        c.of(x);
        due("count(9) behind " + act + " " + where, x.count(9), Math.min(14, row + 1));
        due("undo() of " + act + " " + where, x.undo(), Math.min(13, row));
        if (row < 14) {
            sameAs(scene.make(), "undo() of " + act + " " + where, x);
        } else {
            same("undo() of " + act + " " + where, plight(x), plight(scene.make()));
        }
    }

    static void p12_undoAloneTakesAnActBack() {
        sentence(12, "The last ACT is undone: how many are left.");
        SafetyPinsCounted x = of("SN0192N1213W01");
        x.day();
        x.keep(0);
        x.open(1);
        x.seed(77);
        x.trial(2, 1);
        x.write('0');
        x.keep(1);
        due("undo(), the opened one", x.undo(), 1);
        due("count(5)", x.count(5), 0);
        due("undo(), the day", x.undo(), 0);
        due("count(4)", x.count(4), 0);
        due("seed(77), no act", x.seed(77), 77);
        due("count(10), no act", x.count(10), 1);
        due("count(0), no act", x.count(0), 15);
        due("again(0), kept before it was undone", x.again(0), 1);
        due("count(5)", x.count(5), 0);
        due("pin(0, 5)", x.pin(0, 5), 1);
        due("again(1), kept before it was undone", x.again(1), 1);
        due("count(5)", x.count(5), 2);
    }

    /** A run of calls up to the last of 512, beside a row and slots of texts that tell what was. */
    private static final class LongRun {
        private final Random dice;
        private final SafetyPinsCounted x = of("SN0132N1223N2340W01W12W03");
        private final Deque<String> row = new ArrayDeque<>();
        private final String[] slots = new String[2];

        LongRun(int lot) {
            dice = new Random(lot);
        }

        void go() {
            String now = plight(x);
            while (x.calls() < SafetyPinsCounted.MOST_CALLS - 10) {
                now = step(dice.nextInt(24), now);
                if (dice.nextInt(3) == 0) {
                    due("count(9), call " + x.calls(), x.count(9), row.size());
                }
            }
        }

        private String step(int lot, String now) {
            int pin = dice.nextInt(3);
            if (lot <= 12) {
                long got = lot <= 6 ? x.day() : lot <= 8 ? x.tug(pin, 3) : lot <= 10 ? x.open(pin) : x.shut(pin);
                return got < 0 ? looked("a refused act", now) : acted(now);
            }
            if (lot <= 19) {
                return undone(now);
            }
            int slot = dice.nextInt(2);
            if (lot == 20) {
                x.keep(slot);
                slots[slot] = now;
                return looked("keep", now);
            }
            if (lot <= 22) {
                return wentOn(slot, now);
            }
            return dice.nextInt(4) == 0 ? townAnew() : now;
        }

        private String acted(String before) {
            row.addLast(before);
            if (row.size() > 14) {
                row.removeFirst();
            }
            return plight(x);
        }

        private String looked(String call, String now) {
            same(call + ", call " + x.calls(), plight(x), now);
            return now;
        }

        private String undone(String now) {
            if (row.isEmpty()) {
                due("undo(), call " + x.calls(), x.undo(), STATE);
                return looked("undo() of none", now);
            }
            String was = row.removeLast();
            due("undo(), call " + x.calls(), x.undo(), row.size());
            return looked("undo()", was);
        }

        private String wentOn(int slot, String now) {
            int day = x.again(slot);
            due("again(" + slot + ") is STATE, call " + x.calls(), day == STATE ? 1 : 0, slots[slot] == null ? 1 : 0);
            if (slots[slot] == null) {
                return looked("again() of none", now);
            }
            row.clear();
            due("again(" + slot + "), call " + x.calls(), x.count(4), day);
            return looked("again()", slots[slot]);
        }

        private String townAnew() {
            x.town();
            row.clear();
            Arrays.fill(slots, null);
            return looked("town()", plight(0, 0, new int[3]));
        }
    }

    static void p12_theRowInLongRuns() {
        sentence(12, "ACTS (DAYS, TUGGED, SHUT, OPENED) are a row (14 at most; of more the first one is forgotten); the last one can be undone.");
        for (int lot = 1; lot <= 200; lot++) {
            new LongRun(lot).go();
        }
    }

    // ---- promises 28 and 29

    static void p28_noSuchSlot() {
        sentence(28, "UNKNOWN.");
        for (int slot : new int[] {LEAST, -1, 2, MOST}) {
            refusedAlways(UNKNOWN, "keep(" + slot + ")", x -> x.keep(slot));
        }
    }

    static void p28_keptAsItIs() {
        sentence(28, "SLOTS 0 to 1 keep which PINS are OPEN, WEAR, THE DAY (THE ROW of ACTS is empty when one goes on).");
        everywhere(20, (where, scene) -> {
            for (int slot = 0; slot <= 1; slot++) {
                SafetyPinsCounted x = scene.make();
                String now = plight(x);
                int row = x.count(9);
                due("keep(" + slot + ") " + where, x.keep(slot), x.count(4));
                same("keep(" + slot + ") " + where, plight(x), now);
                due("count(9), the row stays " + where, x.count(9), row);
                x.day();
                x.tug(1, 9);
                x.undo();
                due("again(" + slot + ") " + where, x.again(slot), x.count(4));
                same("again(" + slot + ") " + where, plight(x), now);
                due("count(9) " + where, x.count(9), 0);
                x.day();
                x.again(slot);
                same("again(" + slot + "), a second time, " + where, plight(x), now);
            }
        });
    }

    static void p28_theOtherSlotStays() {
        sentence(28, "They are kept: THE DAY.");
        for (int slot = 0; slot <= 1; slot++) {
            SafetyPinsCounted x = of("SN0192N0292W01");
            x.day();
            x.keep(slot);
            x.day();
            x.open(1);
            due("keep of the other", x.keep(1 - slot), 2);
            x.town();
            due("again(" + slot + "), gone with the town", x.again(slot), STATE);
            x.keep(slot);
            due("again of the other, gone too", x.again(1 - slot), STATE);
            x.day();
            due("keep of the other", x.keep(1 - slot), 1);
            due("again(" + slot + ")", x.again(slot), 0);
            due("count(8)", x.count(8), 0);
            due("again of the other", x.again(1 - slot), 1);
            due("count(8)", x.count(8), 2);
        }
    }

    static void p29_nothingButThese() {
        sentence(29, "They are as they were kept: THE DAY.");
        SafetyPinsCounted x = of("SN0192D01W01");
        x.keep(0);
        x.trial(3, 1);
        x.seed(5);
        x.write('9');
        x.open(0);
        due("again(0)", x.again(0), 0);
        due("count(10), what was tried since stays", x.count(10), 1);
        due("seed(5), the seed since stays", x.seed(5), 5);
        due("count(0), the text since stays", x.count(0), 13);
        due("count(1)", x.count(1), 1);
        due("count(2)", x.count(2), 1);
        due("count(3)", x.count(3), 1);
        due("count(5)", x.count(5), 0);
    }
}
