/** The bounds of promises 8 to 12, 28 and 29: days, tugs, pins shut and opened, acts undone, slots. */
final class SafetyPinsBoundsActs extends SafetyPinsBench {
    private static final int BRASS = 1, RUSTY = 2;

    private static int holds(int strength, int kind) {
        return kind == BRASS ? strength + 3 : strength;
    }

    // ---- promise 8

    static void p08_moreThanItHolds() {
        sentence(8, "the LOADS of both its ends together are more than it HOLDS are OPEN");
        for (int kind = 0; kind <= 3; kind++) {
            for (int strength = 0; strength <= 9; strength++) {
                for (int load = 0; load <= 9; load++) {
                    String pin = "SN01" + strength + kind;
                    int gives = load > holds(strength, kind) ? 1 : 0;
                    due("day() of " + pin + ", load " + load + " at 0", of(pin + "W0" + load).day(), gives);
                    due("day() of " + pin + ", load " + load + " at 1", of(pin + "W1" + load).day(), gives);
                    due("day() of " + pin + ", load " + load + " at 2", of(pin + "W2" + load).day(), 0);
                }
            }
        }
    }

    static void p08_loadsAre1More() {
        sentence(8, "then for each of these the LOADS of both its ends are 1 more");
        // 0-2 gives, then 2-1; then at 0 are 2, at 1 is 1
        due("day(), 3 are more than 2", of("SN0200N2100N0120W01").day(), 3);
        due("day(), 3 are not more than 3", of("SN0200N2100N0130W01").day(), 2);
        // brass 9 holds 12: 9 and three pins that gave are no more than that, four are
        due("day(), 12 are not more than 12", of("SN0191N0200N0200N0200W09").day(), 3);
        due("day(), 13 are more than 12", of("SN0191N0200N0200N0200N0200W09").day(), 5);
        due("day(), a pin that gives alone", of("SN0110N1210W02").day(), 1);
        due("day(), and what it brings is enough", of("SN0110N1200W02").day(), 2);
    }

    static void p08_againAndAgain() {
        sentence(8, "again and again, till there is none");
        due("day(), in a row", of("SN0100N1200N2300N3400N4500N4500N4500W01").day(), 7);
        due("day(), in a row told from its end", of("SN4500N4500N4500N3400N2300N1200N0100W01").day(), 7);
        // told from the last to give: the loads at 1 and 2 are 1, 3, 5, 7, 9, 11, 13 together, so one gives each time
        due("day(), seven times", of("SN1291N1271N1280N1260N1240N1220N1200W11").day(), 7);
        due("day(), five times: 11 are not more than 11", of("SN1291N1281N1280N1260N1240N1220N1200W11").day(), 5);
        due("day(), twice", of("SN1291N1271N1280N1260N1250N1220N1200W11").day(), 2);
        due("day(), till one holds", of("SN0100N1200N2310N3400N4500W01").day(), 2);
    }

    static void p08_thePullOfTheDay() {
        sentence(8, "the LOAD of the THING of THE DAY's PULL (that which is left of it by how many there are) is p, of others 0 (none: 0)");
        String pins = "SN0413N1413N2413N3413";
        for (int pulls = 1; pulls <= 4; pulls++) {
            SafetyPinsCounted x = of(pins + "W02W12W22W32".substring(0, 3 * pulls));
            for (int day = 0; day <= 20; day++) {
                due("day() " + day + " of " + pulls + " pulls", x.day(), 1);
                due("count(5) behind it", x.count(5), 1 << day % pulls);
                due("count(4) behind it", x.count(4), day + 1);
            }
            x.undo();
            x.undo();
            x.day();
            due("count(5), day 19 once more", x.count(5), 1 << 19 % pulls);
        }
        SafetyPinsCounted none = of("SN0100N0102N0103");
        due("day() of no pull", none.day(), 0);
        due("count(4)", none.count(4), 1);
        due("count(8)", none.count(8), 0);
        due("day() of a pull of 0", of("SN0100N0102N0103W00").day(), 0);
        due("day() of a pull of 1", of("SN0100N0102N0103W01").day(), 3);
    }

    static void p08_sprungAreShutAgain() {
        sentence(8, "SPRUNG PINS are SHUT again");
        SafetyPinsCounted x = of("SN0190N0191N0192N0193");
        for (int pin = 0; pin <= 3; pin++) {
            x.open(pin);
        }
        due("day() of no pull", x.day(), 0);
        due("count(5), all but the sprung one", x.count(5), 7);
        SafetyPinsCounted all = of("S" + "N0103".repeat(7) + "W01W00");
        due("day(), all give", all.day(), 7);
        due("count(5)", all.count(5), 127);
        due("day(), none gives", all.day(), 0);
        due("count(5)", all.count(5), 0);
        due("day(), all give anew", all.day(), 7);
        SafetyPinsCounted daily = of("S" + "N0103".repeat(7) + "W01");
        due("day()", daily.day(), 7);
        due("day(), they were shut and give", daily.day(), 7);
    }

    static void p08_wearBy1OrMore() {
        sentence(8, "together are 1 or more, has 1 more WEAR");
        int[] worn = {0, 1, 1, 1, 1, 1, 1, 1, 1, 1};
        for (int load = 0; load <= 9; load++) {
            SafetyPinsCounted x = of("SN0192W0" + load);
            x.day();
            due("pin(0, 5) by a load of " + load, x.pin(0, 5), worn[load]);
            SafetyPinsCounted y = of("SN0192W1" + load);
            y.day();
            due("pin(0, 5) by a load of " + load + " at 1", y.pin(0, 5), worn[load]);
        }
        SafetyPinsCounted beside = of("SN0192W29");
        beside.day();
        due("pin(0, 5), the load is elsewhere", beside.pin(0, 5), 0);
        for (int kind = 0; kind <= 3; kind++) {
            SafetyPinsCounted x = of("SN019" + kind + "W09");
            x.day();
            due("pin(0, 5) of kind " + kind, x.pin(0, 5), kind == RUSTY ? 1 : 0);
        }
    }

    static void p08_loadsAsTheyAreThen() {
        sentence(8, "of which the LOADS of both ends, as they are then");
        SafetyPinsCounted x = of("SN0100N1292N2392W01");
        due("day(), the one beside gives", x.day(), 1);
        due("pin(1, 5), at its end is 1 then", x.pin(1, 5), 1);
        due("pin(2, 5), at its ends is 0", x.pin(2, 5), 0);
        SafetyPinsCounted held = of("SN0110N1292W01");
        due("day(), it holds", held.day(), 0);
        due("pin(1, 5), at its ends is 0", held.pin(1, 5), 0);
    }

    static void p08_onlyShutOnesWear() {
        sentence(8, "then each RUSTY PIN that is SHUT");
        SafetyPinsCounted x = of("SN0112W01N0192");
        x.open(1);
        due("day()", x.day(), 0);
        due("pin(0, 5), shut", x.pin(0, 5), 1);
        due("pin(1, 5), open", x.pin(1, 5), 0);
        due("day(), it gives", x.day(), 1);
        due("pin(0, 5), it gave", x.pin(0, 5), 1);
        due("day()", x.day(), 0);
        due("pin(0, 5), open", x.pin(0, 5), 1);
    }

    static void p08_howManyGive() {
        sentence(8, "A DAY: how many PINS give by it.");
        due("day() of a new object", fresh().day(), 0);
        due("day(), none of seven", of("S" + "N0110".repeat(7) + "W01").day(), 0);
        due("day(), one of seven", of("S" + "N0190".repeat(6) + "N0110W02").day(), 1);
        due("day(), seven", of("S" + "N0110".repeat(7) + "W02").day(), 7);
        SafetyPinsCounted x = of("SN0110N0110W02");
        x.open(0);
        due("day(), the open one does not count", x.day(), 1);
        due("day(), all are open", x.day(), 0);
        SafetyPinsCounted sprung = of("SN0193N0113W02");
        sprung.open(0);
        sprung.open(1);
        due("day(), one stays shut, the other gives anew", sprung.day(), 1);
        due("count(5)", sprung.count(5), 2);
    }

    // ---- promise 9

    static void p09_thingsThereAre() {
        sentence(9, "UNKNOWN (there is no such THING (0 to 5), PIN, SLOT)");
        knowsThings("tug by 1", (x, thing) -> x.tug(thing, 1));
        knowsThings("tug by 9", (x, thing) -> x.tug(thing, 9));
        due("tug(0, 1)", of("SN0100").tug(0, 1), 1);
        due("tug(5, 1)", of("SN4500").tug(5, 1), 1);
    }

    static void p09_n1To9() {
        sentence(9, "TUGGED: the LOAD of a THING is n (1 to 9), of others 0");
        for (int thing : new int[] {0, 5}) {
            refusedFor(OUTSIDE, "tug at " + thing, (x, n) -> x.tug(thing, n), 0, 10, -1, 11, LEAST, MOST);
        }
        for (int kind = 0; kind <= 3; kind++) {
            for (int strength = 0; strength <= 9; strength++) {
                for (int n = 1; n <= 9; n++) {
                    String pin = "SN05" + strength + kind;
                    int gives = n > holds(strength, kind) ? 1 : 0;
                    due("tug(0, " + n + ") of " + pin, of(pin).tug(0, n), gives);
                    due("tug(5, " + n + ") of " + pin, of(pin).tug(5, n), gives);
                    due("tug(1, " + n + ") of " + pin, of(pin).tug(1, n), 0);
                }
            }
        }
    }

    static void p09_unknownBeforeOutside() {
        sentence(9, "UNKNOWN; OUTSIDE: n.");
        for (int thing : new int[] {LEAST, -1, 6, MOST}) {
            for (int n : new int[] {LEAST, 0, 10, MOST}) {
                refusedAlways(UNKNOWN, "tug(" + thing + ", " + n + ")", x -> x.tug(thing, n));
            }
        }
    }

    static void p09_noWear() {
        sentence(9, "PINGS by these (no WEAR).");
        for (int n = 1; n <= 9; n++) {
            SafetyPinsCounted x = of("SN0192N1292N2303W39");
            x.open(2);
            due("tug(0, " + n + ")", x.tug(0, n), 0);
            due("count(8)", x.count(8), 0);
            due("count(4), no day", x.count(4), 0);
            due("count(5), the sprung one stays open", x.count(5), 4);
        }
    }

    static void p09_howManyGive() {
        sentence(9, "TUGGED: how many PINS give by it.");
        due("tug(0, 9) of a new object", fresh().tug(0, 9), 0);
        SafetyPinsCounted x = of("S" + "N0110".repeat(7));
        due("tug(0, 1), none of seven", x.tug(0, 1), 0);
        due("tug(0, 2), seven", x.tug(0, 2), 7);
        due("tug(0, 9), none is left", x.tug(0, 9), 0);
        due("count(5)", x.count(5), 127);
        due("count(9), each is an act", x.count(9), 3);
        SafetyPinsCounted one = of("S" + "N0180".repeat(6) + "N0170");
        due("tug(0, 8), then at both ends is more", one.tug(0, 8), 7);
        SafetyPinsCounted single = of("S" + "N0190".repeat(6) + "N0160");
        due("tug(0, 7), 9 are not more than 9", single.tug(0, 7), 1);
    }

    // ---- promise 10

    static void p10_pinsThereAre() {
        sentence(10, "UNKNOWN; STATE: it is SHUT.");
        knowsPins("shut", SafetyPinsCounted::shut);
        answersAndChangesNothing(SafetyPinsBench::half, "shut(0), that is shut", x -> x.shut(0), STATE);
        due("shut(1), that is open", half().shut(1), 0);
        SafetyPinsCounted x = of("S" + "N0190".repeat(7));
        for (int pin = 0; pin <= 6; pin++) {
            due("shut(" + pin + "), as told", x.shut(pin), STATE);
            x.open(pin);
            due("shut(" + pin + "), open", x.shut(pin), 0);
            due("shut(" + pin + "), shut again", x.shut(pin), STATE);
        }
    }

    static void p10_openYet() {
        sentence(10, "SHUT: how many are OPEN yet.");
        SafetyPinsCounted x = of("S" + "N0110".repeat(7));
        x.tug(0, 9);
        for (int pin = 0; pin <= 6; pin++) {
            due("shut(" + pin + ")", x.shut(pin), 6 - pin);
        }
        due("count(5)", x.count(5), 0);
        due("count(9)", x.count(9), 8);
    }

    static void p10_noWearThen() {
        sentence(10, "a PIN is SHUT (its WEAR is 0 then)");
        SafetyPinsCounted x = of("SN0192N0192W01");
        days(x, 9);
        x.open(0);
        x.open(1);
        due("pin(0, 5), open", x.pin(0, 5), 9);
        x.shut(0);
        due("pin(0, 5)", x.pin(0, 5), 0);
        due("pin(0, 4)", x.pin(0, 4), 9);
        due("pin(1, 5), only its own", x.pin(1, 5), 9);
        due("pin(1, 6)", x.pin(1, 6), 1);
        due("lasts(0), as if new", x.lasts(0), 10);
    }

    // ---- promise 11

    static void p11_pinsThereAre() {
        sentence(11, "UNKNOWN; STATE: it is OPEN.");
        knowsPins("open", SafetyPinsCounted::open);
        answersAndChangesNothing(SafetyPinsBench::half, "open(1), that is open", x -> x.open(1), STATE);
        due("open(0), that is shut", half().open(0), 2);
        SafetyPinsCounted x = of("S" + "N0190".repeat(7));
        for (int pin = 0; pin <= 6; pin++) {
            due("open(" + pin + "), as told", x.open(pin), pin + 1);
            due("open(" + pin + "), open", x.open(pin), STATE);
        }
        SafetyPinsCounted gave = of("SN0100");
        gave.tug(0, 1);
        due("open(0), that gave", gave.open(0), STATE);
    }

    static void p11_howManyAreOpen() {
        sentence(11, "OPENED: how many are OPEN.");
        SafetyPinsCounted x = of("S" + "N0190".repeat(7));
        for (int pin = 6; pin >= 0; pin--) {
            due("open(" + pin + ")", x.open(pin), 7 - pin);
        }
        due("count(5)", x.count(5), 127);
    }

    static void p11_nothingElseFollows() {
        sentence(11, "or OPENED (nothing else follows)");
        SafetyPinsCounted x = of("SN0102N1200N0103N0192W01");
        due("open(0)", x.open(0), 1);
        due("count(5)", x.count(5), 1);
        due("count(4)", x.count(4), 0);
        due("count(8)", x.count(8), 0);
        SafetyPinsCounted worn = of("SN0192W01");
        worn.day();
        worn.open(0);
        due("pin(0, 5), its wear stays", worn.pin(0, 5), 1);
    }

    // ---- promise 12

    static void p12_thereIsNone() {
        sentence(12, "STATE: there is none.");
        answersAndChangesNothing(SafetyPinsBench::fresh, "undo() of a new object", SafetyPinsCounted::undo, STATE);
        answersAndChangesNothing(() -> of(WHOLE_TOWN), "undo() of a new town", SafetyPinsCounted::undo, STATE);
        answersAndChangesNothing(SafetyPinsBoundsActs::goneOn, "undo() as one goes on", SafetyPinsCounted::undo, STATE);
        SafetyPinsCounted x = half();
        due("undo(), two are left", x.undo(), 2);
        due("undo(), one is left", x.undo(), 1);
        due("undo(), none is left", x.undo(), 0);
        due("undo(), there is none", x.undo(), STATE);
        due("undo(), there is none yet", x.undo(), STATE);
        x.day();
        due("undo(), one there", x.undo(), 0);
    }

    private static SafetyPinsCounted goneOn() {
        SafetyPinsCounted x = crowded();
        x.again(0);
        return x;
    }

    static void p12_fourteenAtMost() {
        sentence(12, "are a row (14 at most; of more the first one is forgotten); the last one can be undone.");
        for (int acts : new int[] {0, 1, 13, 14, 15, 16, 27, 28, 29}) {
            SafetyPinsCounted x = of("SN0112N0192W01W11W21");
            days(x, acts);
            int row = Math.min(14, acts);
            due("count(9) behind " + acts, x.count(9), row);
            for (int left = row - 1; left >= 0; left--) {
                due("undo() behind " + acts, x.undo(), left);
                due("count(4)", x.count(4), acts - row + left);
            }
            due("undo() behind " + acts + ", none left", x.undo(), STATE);
            due("count(4), the first ones are forgotten", x.count(4), acts - row);
            sameAs(withEmptyRow(acts - row), "all undone behind " + acts, withEmptyRow(x));
        }
    }

    private static SafetyPinsCounted withEmptyRow(int passed) {
        SafetyPinsCounted x = of("SN0112N0192W01W11W21");
        days(x, passed);
        return withEmptyRow(x);
    }

    private static SafetyPinsCounted withEmptyRow(SafetyPinsCounted x) {
        x.keep(0);
        x.again(0);
        return x;
    }

    static void p12_undoneIsAsItWas() {
        sentence(12, "The last ACT is undone: how many are left.");
        undone("a day", SafetyPinsCounted::day);
        undone("a tug of 1", x -> x.tug(0, 1));
        undone("a tug of 9", x -> x.tug(0, 9));
        undone("a pin shut", x -> x.shut(1));
        undone("a pin opened", x -> x.open(0));
    }

    private static void undone(String act, Call c) {
        SafetyPinsCounted x = half();
        if (c.of(x) < 0) {
            fault(act + " is refused");
        }
        due("count(9) behind " + act, x.count(9), 4);
        due("undo() of " + act, x.undo(), 3);
        sameAs(half(), "undo() of " + act, x);
    }

    static void p12_everyActIsInTheRow() {
        sentence(12, "ACTS (DAYS, TUGGED, SHUT, OPENED)");
        SafetyPinsCounted x = of("SN0190");
        due("count(9), none yet", x.count(9), 0);
        x.tug(5, 1);
        due("count(9), a tug by which nothing moves", x.count(9), 1);
        x.open(0);
        due("count(9), opened", x.count(9), 2);
        x.shut(0);
        due("count(9), shut", x.count(9), 3);
        x.day();
        due("count(9), a day", x.count(9), 4);
        x.keep(0);
        x.seasons(30);
        x.judge(4, 0);
        x.later(20);
        x.trial(1, 1);
        x.shut(0);
        x.shut(7);
        x.tug(6, 1);
        x.tug(0, 10);
        due("count(9), nothing else is an act", x.count(9), 4);
    }

    // ---- promise 28

    static void p28_slots0To1() {
        sentence(28, "SLOTS 0 to 1 keep which PINS are OPEN, WEAR, THE DAY");
        knowsSlots("keep", SafetyPinsCounted::keep);
        SafetyPinsCounted x = of("S" + "N0192".repeat(6) + "N0190W01");
        due("keep(0), all shut", x.keep(0), 0);
        days(x, 9);
        x.open(6);
        due("keep(1), all worn", x.keep(1), 9);
        x.day();
        due("count(5), all open", x.count(5), 127);
        due("again(0)", x.again(0), 0);
        due("count(4)", x.count(4), 0);
        due("count(5)", x.count(5), 0);
        due("count(8)", x.count(8), 0);
        due("again(1)", x.again(1), 9);
        due("count(4)", x.count(4), 9);
        due("count(5)", x.count(5), 64);
        due("count(8)", x.count(8), 54);
    }

    static void p28_keptOverWhatWas() {
        sentence(28, "They are kept: THE DAY.");
        SafetyPinsCounted x = of("SN0192W01");
        due("keep(0) of day 0", x.keep(0), 0);
        x.day();
        due("keep(0) of day 1", x.keep(0), 1);
        due("keep(1) of day 1", x.keep(1), 1);
        x.day();
        due("keep(1) of day 2", x.keep(1), 2);
        due("again(0), the last that was kept", x.again(0), 1);
        due("count(8)", x.count(8), 1);
        due("again(1)", x.again(1), 2);
        due("count(8)", x.count(8), 2);
        due("keep(0) of what was gone on from", x.keep(0), 2);
        SafetyPinsCounted y = half();
        y.keep(0);
        due("count(9), the row stays", y.count(9), 3);
        due("keep(0) of a new object", fresh().keep(0), 0);
        due("keep(1) of a new object", fresh().keep(1), 0);
    }

    // ---- promise 29

    static void p29_slotsThereAre() {
        sentence(29, "UNKNOWN; STATE: none were kept.");
        knowsSlots("again", SafetyPinsCounted::again);
        answersAndChangesNothing(SafetyPinsBench::fresh, "again(0), none kept", x -> x.again(0), STATE);
        answersAndChangesNothing(SafetyPinsBench::fresh, "again(1), none kept", x -> x.again(1), STATE);
        answersAndChangesNothing(SafetyPinsBench::half, "again(0), only 1 kept", x -> x.again(0), STATE);
        due("again(1), kept", half().again(1), 1);
        SafetyPinsCounted x = of("S");
        x.keep(0);
        due("again(0), kept of day 0", x.again(0), 0);
        due("again(1), only 0 kept", x.again(1), STATE);
        x.town();
        due("again(0), a town anew", x.again(0), STATE);
    }

    static void p29_asTheyWereKept() {
        sentence(29, "They are as they were kept: THE DAY.");
        SafetyPinsCounted x = crowded();
        due("again(0)", x.again(0), 1);
        due("count(4)", x.count(4), 1);
        due("count(5)", x.count(5), 0);
        due("again(1)", x.again(1), 4);
        due("count(5), day 4 and 6 opened", x.count(5) >> 6, 1);
        days(x, 3);
        due("again(1), a second time", x.again(1), 4);
        due("count(10), tried stays", x.count(10), 6);
        due("count(0), the text stays", x.count(0), 60);
        due("seed(0), the seed stays", x.seed(0), Long.MIN_VALUE);
    }

    static void p29_theRowIsEmpty() {
        sentence(29, "(THE ROW of ACTS is empty when one goes on)");
        for (int acts : new int[] {0, 1, 13, 14, 15}) {
            SafetyPinsCounted x = of("SN0190");
            x.keep(0);
            days(x, acts);
            due("again(0) behind " + acts, x.again(0), 0);
            due("count(9)", x.count(9), 0);
            due("undo()", x.undo(), STATE);
            x.day();
            due("undo() of an act behind it", x.undo(), 0);
            due("count(4)", x.count(4), 0);
            due("undo()", x.undo(), STATE);
        }
    }
}
