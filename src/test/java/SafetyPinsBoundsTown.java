/** The bounds of promises 1 to 7: a new object, the text, the town. */
final class SafetyPinsBoundsTown extends SafetyPinsBench {
    private static final String SEVEN_PINS = "N0110N1210N2310N3410N4510N5010N0210";
    private static final String FOUR_PULLS = "W00W19W50W59";
    private static final String THREE_DEEDS = "D01D50D05";
    private static final String FULL_TOWN = "S" + SEVEN_PINS + FOUR_PULLS + THREE_DEEDS;

    // ---- promise 1

    static void p01_noPins() {
        sentence(1, "No pins.");
        SafetyPinsCounted x = fresh();
        for (int pin : new int[] {LEAST, -1, 0, 1, 6, 7, MOST}) {
            due("pin(" + pin + ", 0)", x.pin(pin, 0), UNKNOWN);
            due("pin(" + pin + ", 7)", x.pin(pin, 7), UNKNOWN);
        }
        due("count(1)", x.count(1), 0);
        due("count(5)", x.count(5), 0);
        due("count(7)", x.count(7), 0);
        due("count(8)", x.count(8), 0);
    }

    static void p01_noPartsAtFirst() {
        sentence(1, "At first there are no PINS, PULLS, DEEDS.");
        SafetyPinsCounted x = fresh();
        due("count(1)", x.count(1), 0);
        due("count(2)", x.count(2), 0);
        due("count(3)", x.count(3), 0);
        due("count(6)", x.count(6), 0);
        due("letsGo(0)", x.letsGo(0), 0);
        due("letsGo(1)", x.letsGo(1), OUTSIDE);
        due("judge(1, 500)", x.judge(1, 500), 0);
        due("cuts(0, 5)", x.cuts(0, 5), 0);
        due("seasons(30)", x.seasons(30), 0);
        due("later(20)", x.later(20), 0);
        due("day()", x.day(), 0);
        due("tug(5, 9)", x.tug(5, 9), 0);
    }

    static void p01_theNumbersOfRefusals() {
        sentence(1, "NONE is -9.");
        due("NONE", SafetyPins.NONE, -9);
        due("UNKNOWN", SafetyPins.UNKNOWN, -1);
        due("OUTSIDE", SafetyPins.OUTSIDE, -2);
        due("STATE", SafetyPins.STATE, -3);
        due("FULL", SafetyPins.FULL, -4);
    }

    static void p01_fiveHundredTwelveCalls() {
        sentence(1, "An object is used for at most 512 calls after it has been made");
        SafetyPinsCounted x = of("SN0113W02");
        int passed = 0;
        while (x.calls() < 510) {
            due("day(), call " + (x.calls() + 1), x.day(), 1);
            passed++;
        }
        due("count(4), call 511", x.count(4), passed);
        due("tug(0, 9), call 512", x.tug(0, 9), 0);
        SafetyPinsCounted y = fresh();
        for (int call = 1; call <= 511; call++) {
            due("write(83), call " + call, y.write(83), call <= 60 ? call : FULL);
        }
        due("wipe(), call 512", y.wipe(), 60);
        SafetyPinsCounted z = of("SN0190");
        while (z.calls() < 510) {
            due("open(0), call " + (z.calls() + 1), z.open(0), 1);
            due("shut(0), call " + (z.calls() + 1), z.shut(0), 0);
        }
        due("undo()", z.undo(), 13);
    }

    // ---- promise 2

    static void p02_letters0To255() {
        sentence(2, "A letter (0 to 255) comes behind THE TEXT: how long it is.");
        SafetyPinsCounted x = fresh();
        due("write(-1)", x.write(-1), OUTSIDE);
        due("write(256)", x.write(256), OUTSIDE);
        due("write(0)", x.write(0), 1);
        due("write(1)", x.write(1), 2);
        due("write(254)", x.write(254), 3);
        due("write(255)", x.write(255), 4);
        due("write(-1)", x.write(-1), OUTSIDE);
        due("write(256)", x.write(256), OUTSIDE);
        due("count(0)", x.count(0), 4);
        refusedFor(OUTSIDE, "write", SafetyPinsCounted::write, -1, 256, 257, -83, 256 + 83, LEAST, MOST);
    }

    static void p02_sixtyLettersAtMost() {
        sentence(2, "THE TEXT is letters (60 at most).");
        SafetyPinsCounted x = fresh();
        for (int length = 1; length <= 59; length++) {
            due("write(83)", x.write(83), length);
        }
        due("write(83), the last that is taken", x.write(83), 60);
        due("write(83), the first that is refused", x.write(83), FULL);
        due("write(83), once more", x.write(83), FULL);
        due("count(0)", x.count(0), 60);
        due("wipe()", x.wipe(), 60);
        due("write(83), room again", x.write(83), 1);
    }

    static void p02_fullChangesNothing() {
        sentence(2, "What is refused changes nothing.");
        for (int letter : new int[] {0, 1, 'N', 'S', 254, 255}) {
            answersAndChangesNothing(SafetyPinsBench::crowded, "write(" + letter + "), full", x -> x.write(letter), FULL);
        }
    }

    static void p02_outsideBeforeFull() {
        sentence(2, "OUTSIDE; FULL: there are 60.");
        for (int letter : new int[] {LEAST, -1, 256, MOST}) {
            answersAndChangesNothing(SafetyPinsBench::crowded, "write(" + letter + "), full", x -> x.write(letter), OUTSIDE);
        }
        due("write(0), full", crowded().write(0), FULL);
        due("write(255), full", crowded().write(255), FULL);
    }

    // ---- promise 3

    static void p03_emptyOneAndFull() {
        sentence(3, "THE TEXT is empty: how long it was.");
        SafetyPinsCounted x = fresh();
        due("wipe(), nothing there yet", x.wipe(), 0);
        x.write('S');
        due("wipe(), one", x.wipe(), 1);
        due("wipe(), nothing left", x.wipe(), 0);
        for (int letter = 1; letter <= 59; letter++) {
            x.write(48);
        }
        due("wipe(), one less than full", x.wipe(), 59);
        for (int letter = 1; letter <= 60; letter++) {
            x.write(48);
        }
        x.write(48);
        due("wipe(), full", x.wipe(), 60);
        due("count(0)", x.count(0), 0);
        due("fault()", x.fault(), 0);
        due("write(83)", x.write(83), 1);
        due("fault(), nothing of before is left", x.fault(), NONE);
        SafetyPinsCounted y = of(FULL_TOWN);
        due("wipe() of a town", y.wipe(), 57);
        due("count(1), the town stays", y.count(1), 7);
        due("town()", y.town(), STATE);
        due("count(1), it stays yet", y.count(1), 7);
    }

    // ---- promise 4

    private static void faults(String text, int want) {
        SafetyPinsCounted x = fresh().tell(text);
        due("fault() of \"" + text + "\"", x.fault(), want);
        due("fault() of it, asked again", x.fault(), want);
        SafetyPinsCounted behind = fresh().tell(text + "S");
        if (want != NONE && want < text.length()) {
            due("fault() of \"" + text + "\" and S", behind.fault(), want);
        }
        due("town() of \"" + text + "\" is refused", x.town() == STATE ? 1 : 0, want == NONE ? 0 : 1);
    }

    static void p04_sAtTheHead() {
        sentence(4, "A TOWN is a TEXT: S, then PARTS, none or more");
        faults("", 0);
        faults("S", NONE);
        for (char other : new char[] {0, 'R', 'T', 's', 'N', 'W', 'D', '0', 255}) {
            faults("" + other, 0);
        }
        faults("SS", 1);
        faults(" S", 0);
        faults("SN0110", NONE);
        faults("SN0110S", 6);
        faults("S" + FOUR_PULLS + THREE_DEEDS + SEVEN_PINS, NONE);
    }

    static void p04_whatBeginsAPart() {
        sentence(4, "the place (from 0 on) of the first letter by which THE TEXT can be no TOWN");
        for (char begins : new char[] {'N', 'W', 'D'}) {
            faults("S" + begins, 2);
            faults("S" + (char) (begins - 1), 1);
            faults("S" + (char) (begins + 1), 1);
            faults("S" + (char) (begins + 32), 1);
            faults("SW00" + begins, 5);
            faults("SW00" + (char) (begins + 32), 4);
        }
        faults("S" + (char) 0, 1);
        faults("S" + (char) 255, 1);
        faults("S0", 1);
        faults("SNN", 2);
        faults("SN0N", 3);
        faults("SN01N", 4);
        faults("SN011N", 5);
        faults("SWW", 2);
        faults("SW0W", 3);
        faults("SD0D", 3);
    }

    static void p04_whateverCameBehindIt() {
        sentence(4, "whatever came behind it (its length set aside)");
        faults("X" + "S".repeat(59), 0);
        faults("Sx" + "N0110".repeat(11), 1);
        faults("SN6" + "N0110".repeat(11), 2);
        faults("S" + SEVEN_PINS + FOUR_PULLS + "D01D01D0", 56);
        faults(FULL_TOWN, NONE);
        faults(FULL_TOWN + "N", 57);
        faults(FULL_TOWN + "W", 57);
        faults(FULL_TOWN + "D", 57);
        faults(FULL_TOWN + "000", 57);
    }

    static void p04_onlyNotAtItsEnd() {
        sentence(4, "its length, if it is only not at its end");
        faults("", 0);
        String pin = "N0193";
        String pull = "W59";
        String deed = "D50";
        for (int told = 1; told <= 4; told++) {
            faults("S" + pin.substring(0, told), 1 + told);
            faults("S" + deed + pin.substring(0, told), 4 + told);
        }
        for (int told = 1; told <= 2; told++) {
            faults("S" + pull.substring(0, told), 1 + told);
            faults("S" + deed.substring(0, told), 1 + told);
        }
        faults(FULL_TOWN.substring(0, 56), 56);
        faults(FULL_TOWN.substring(0, 55), 55);
        faults(FULL_TOWN.substring(0, 54), NONE);
    }

    static void p04_noneAtItsEnd() {
        sentence(4, "NONE: none.");
        faults("S", NONE);
        faults("SN0110", NONE);
        faults("SW00", NONE);
        faults("SD01", NONE);
        faults(FULL_TOWN, NONE);
        due("how long", FULL_TOWN.length(), 57);
    }

    static void p04_sevenPinsAtMost() {
        sentence(4, "PINS (7 at most)");
        faults("S" + "N0110".repeat(6), NONE);
        faults("S" + "N0110".repeat(7), NONE);
        faults("S" + "N0110".repeat(7) + "N", 36);
        faults("S" + "N0110".repeat(8), 36);
        faults("SW00" + "N0110".repeat(3) + "D01" + "N0110".repeat(4), NONE);
        faults("SW00" + "N0110".repeat(3) + "D01" + "N0110".repeat(4) + "N", 42);
        faults("S" + "N0110".repeat(7) + "W00D01", NONE);
    }

    static void p04_fourPullsAtMost() {
        sentence(4, "PULLS (4 at most)");
        faults("S" + "W00".repeat(3), NONE);
        faults("S" + "W00".repeat(4), NONE);
        faults("S" + "W00".repeat(4) + "W", 13);
        faults("S" + "W00".repeat(5), 13);
        faults("SW00N0110W00D01W00W00", NONE);
        faults("SW00N0110W00D01W00W00W", 21);
        faults("S" + "W00".repeat(4) + "D01N0110", NONE);
    }

    static void p04_threeDeedsAtMost() {
        sentence(4, "DEEDS (3 at most)");
        faults("S" + "D01".repeat(2), NONE);
        faults("S" + "D01".repeat(3), NONE);
        faults("S" + "D01".repeat(3) + "D", 10);
        faults("S" + "D01".repeat(4), 10);
        faults("SD01N0110D01W00D01", NONE);
        faults("SD01N0110D01W00D01D", 18);
        faults("S" + "D01".repeat(3) + "W00N0110", NONE);
    }

    private static void figureIs0To(int most, String before, String behind) {
        figureIs0To(most, before, behind, NONE);
    }

    private static void figureIs0To(int most, String before, String behind, int ifTaken) {
        for (int sign = 0; sign <= 255; sign++) {
            boolean isTaken = sign >= '0' && sign <= '0' + most;
            faults(before + (char) sign + behind, isTaken ? ifTaken : before.length());
        }
    }

    static void p04_thingsOfAPin() {
        sentence(4, "a PIN between THING a and THING b (not the same)");
        figureIs0To(5, "SN", "", 3);
        figureIs0To(4, "SN5", "10");
        faults("SN5010", NONE);
        faults("SN5", 3);
        faults("SN6", 2);
        for (char thing = '0'; thing <= '5'; thing++) {
            faults("SN" + thing + thing + "10", 3);
        }
        faults("SN0510", NONE);
        faults("SN0610", 3);
    }

    static void p04_strength0To9() {
        sentence(4, "of STRENGTH s (0 to 9)");
        figureIs0To(9, "SN01", "0");
    }

    static void p04_kinds0To3() {
        sentence(4, "of KIND k: 0 PLAIN, 1 BRASS, 2 RUSTY, 3 SPRUNG");
        figureIs0To(3, "SN010", "");
        figureIs0To(3, "SN019", "W00");
    }

    static void p04_pull0To9() {
        sentence(4, "a PULL of p (0 to 9) at THING x, of a day");
        figureIs0To(5, "SW", "9");
        figureIs0To(9, "SW0", "");
        figureIs0To(9, "SW5", "D01");
    }

    static void p04_thingsOfADeed() {
        sentence(4, "a DEED for which THING x and THING y (not the same) must not be TOGETHER");
        figureIs0To(5, "SD", "", 3);
        figureIs0To(4, "SD5", "");
        for (char thing = '0'; thing <= '5'; thing++) {
            faults("SD" + thing + thing, 3);
        }
    }

    // ---- promise 5

    static void p05_howManyParts() {
        sentence(5, "100 times PINS, 10 times PULLS, and DEEDS.");
        due("town() of none", fresh().tell("S").town(), 0);
        due("town() of a deed", fresh().tell("SD01").town(), 1);
        due("town() of a pull", fresh().tell("SW00").town(), 10);
        due("town() of a pin", fresh().tell("SN0110").town(), 100);
        due("town() of all", fresh().tell(FULL_TOWN).town(), 743);
        due("town() of all but one each", fresh().tell(
            "S" + SEVEN_PINS.substring(5) + FOUR_PULLS.substring(3) + THREE_DEEDS.substring(3)).town(), 632);
    }

    static void p05_textStays() {
        sentence(5, "THE TEXT (that stays as it is) is THE TOWN");
        SafetyPinsCounted x = fresh().tell("S");
        due("town()", x.town(), 0);
        due("count(0)", x.count(0), 1);
        due("write('W')", x.write('W'), 2);
        due("town(), half a pull", x.town(), STATE);
        x.write('5');
        due("town(), a pull but one letter", x.town(), STATE);
        x.write('9');
        due("town()", x.town(), 10);
        due("town(), once more", x.town(), 10);
        due("count(0)", x.count(0), 4);
        SafetyPinsCounted y = fresh().tell(FULL_TOWN);
        due("town()", y.town(), 743);
        due("count(0)", y.count(0), 57);
        due("town(), once more", y.town(), 743);
    }

    static void p05_aFaultIsRefused() {
        sentence(5, "STATE: a FAULT.");
        answersAndChangesNothing(SafetyPinsBench::fresh, "town() of no text", SafetyPinsCounted::town, STATE);
        for (String text : new String[] {"", "s", "SN", "SN0114", "SN011", "SW0", "SD00", FULL_TOWN.substring(0, 56),
                FULL_TOWN + "N"}) {
            answersAndChangesNothing(() -> half().tell(text), "town() of " + text, SafetyPinsCounted::town, STATE);
        }
        answersAndChangesNothing(SafetyPinsBench::crowded, "town() of 60 letters", SafetyPinsCounted::town, STATE);
        due("town() behind it", half().tell("S").town(), 0);
    }

    static void p05_allShutNoWearDay0() {
        sentence(5, "When THE TOWN is made anew, all PINS are SHUT, WEAR of each is 0, THE DAY is 0.");
        SafetyPinsCounted x = of("S" + "N0192".repeat(7) + "W01");
        days(x, 9);
        due("count(8), all worn", x.count(8), 63);
        x.day();
        due("count(5), all open", x.count(5), 127);
        x.town();
        due("count(4)", x.count(4), 0);
        due("count(5)", x.count(5), 0);
        due("count(8)", x.count(8), 0);
        for (int pin = 0; pin < 7; pin++) {
            due("pin(" + pin + ", 4)", x.pin(pin, 4), 9);
            due("pin(" + pin + ", 5)", x.pin(pin, 5), 0);
            due("pin(" + pin + ", 6)", x.pin(pin, 6), 0);
        }
        x.tell("S");
        x.town();
        due("count(1)", x.count(1), 0);
        due("day() of no pull", x.day(), 0);
        x.tell("S" + "N0192".repeat(7));
        x.town();
        due("count(8), it came back new", x.count(8), 0);
    }

    static void p05_rowAndSlotsGo() {
        sentence(5, "(THE ROW of ACTS is empty, what was kept is gone; TRIED, THE SEED stay)");
        for (int acts : new int[] {0, 1, 13, 14, 15}) {
            SafetyPinsCounted x = of("SN0190");
            days(x, acts);
            due("town()", x.town(), 100);
            due("count(9) behind " + acts, x.count(9), 0);
            due("undo() behind " + acts, x.undo(), STATE);
        }
        for (int kept = 0; kept <= 3; kept++) {
            SafetyPinsCounted x = of("SN0190");
            for (int slot = 0; slot <= 1; slot++) {
                if ((kept >> slot & 1) == 1) {
                    x.keep(slot);
                }
            }
            x.town();
            due("again(0)", x.again(0), STATE);
            due("again(1)", x.again(1), STATE);
        }
        for (int tried = 0; tried <= 6; tried++) {
            SafetyPinsCounted x = of("SN0190");
            for (int i = 0; i < tried; i++) {
                x.trial(4, 1);
            }
            x.town();
            due("count(10)", x.count(10), tried);
            due("which(0)", x.which(0), tried == 0 ? 20 : 5);
        }
        for (long seed : new long[] {Long.MIN_VALUE, -1, 0, 1, Long.MAX_VALUE}) {
            SafetyPinsCounted x = of("SN0190");
            x.seed(seed);
            x.town();
            due("seed(3)", x.seed(3), seed);
        }
    }

    static void p05_numberedEachForItself() {
        sentence(5, "are numbered as they are told, each for itself");
        SafetyPinsCounted x = of("SD34N0110W01D01N1223W32N4532D35W59");
        int[][] pins = {{0, 1, 1, 0}, {1, 2, 2, 3}, {4, 5, 3, 2}};
        for (int pin = 0; pin < 3; pin++) {
            for (int what = 0; what < 4; what++) {
                due("pin(" + pin + ", " + what + ")", x.pin(pin, what), pins[pin][what]);
            }
        }
        due("pin(3, 0)", x.pin(3, 0), UNKNOWN);
        due("count(6): deeds 0 and 2, not 1", x.count(6), 5);
        due("later(3): the third pull alone is more than 3 at 4 and 5", x.later(3), 4);
        due("later(2)", x.later(2), 0);
    }

    // ---- promise 6

    static void p06_pinsThereAre() {
        sentence(6, "UNKNOWN; OUTSIDE.");
        for (int what = 0; what <= 6; what++) {
            int about = what;
            knowsPins("pin(.., " + what + ")", (x, pin) -> x.pin(pin, about));
        }
        for (int pin : new int[] {0, 6}) {
            for (int what : new int[] {LEAST, -1, 7, 8, 32, MOST}) {
                answersAndChangesNothing(SafetyPinsBench::crowded, "pin(" + pin + ", " + what + ")", x -> x.pin(pin, what), OUTSIDE);
            }
        }
        for (int pin : new int[] {LEAST, -1, 7, MOST}) {
            for (int what : new int[] {LEAST, -1, 7, MOST}) {
                refusedAlways(UNKNOWN, "pin(" + pin + ", " + what + ")", x -> x.pin(pin, what));
            }
        }
    }

    static void p06_whatIs0To6() {
        sentence(6, "Of a PIN one end as told (what = 0), the other one (1), STRENGTH (2), KIND (3), how much it HOLDS (4), WEAR (5), 1 if it is OPEN (6).");
        SafetyPinsCounted x = of("SN0592N5003");
        int[] first = {0, 5, 9, 2, 9, 0, 0};
        int[] last = {5, 0, 0, 3, 0, 0, 0};
        for (int what = 0; what <= 6; what++) {
            due("pin(0, " + what + ")", x.pin(0, what), first[what]);
            due("pin(1, " + what + ")", x.pin(1, what), last[what]);
        }
        x.open(1);
        due("pin(0, 6)", x.pin(0, 6), 0);
        due("pin(1, 6)", x.pin(1, 6), 1);
    }

    static void p06_plainAndSprung() {
        sentence(6, "PLAIN, SPRUNG: its STRENGTH");
        for (int strength = 0; strength <= 9; strength++) {
            due("pin(0, 4), plain", of("SN01" + strength + "0").pin(0, 4), strength);
            due("pin(0, 4), sprung", of("SN01" + strength + "3").pin(0, 4), strength);
        }
    }

    static void p06_brass() {
        sentence(6, "BRASS: that, and 3");
        for (int strength = 0; strength <= 9; strength++) {
            due("pin(0, 4), brass", of("SN01" + strength + "1").pin(0, 4), strength + 3);
        }
    }

    static void p06_rustyDownTo0() {
        sentence(6, "RUSTY: that, less its WEAR (0 at least)");
        for (int strength = 0; strength <= 9; strength++) {
            SafetyPinsCounted x = of("SN01" + strength + "2W01");
            for (int worn = 0; worn <= strength; worn++) {
                due("pin(0, 5), rusty " + strength, x.pin(0, 5), worn);
                due("pin(0, 4), rusty " + strength, x.pin(0, 4), strength - worn);
                due("day()", x.day(), worn == strength ? 1 : 0);
            }
            days(x, 3);
            due("pin(0, 4), not less than 0", x.pin(0, 4), 0);
            due("pin(0, 5), an open one wears no more", x.pin(0, 5), strength);
            due("pin(0, 6)", x.pin(0, 6), 1);
        }
    }

    // ---- promise 7

    static void p07_thingsThereAre() {
        sentence(7, "UNKNOWN.");
        knowsThings("with", SafetyPinsCounted::with);
    }

    static void p07_itselfAsWell() {
        sentence(7, "(bits; itself as well)");
        SafetyPinsCounted none = fresh();
        SafetyPinsCounted all = of("SN0110N1210N2310N3410N4510");
        for (int thing = 0; thing <= 5; thing++) {
            due("with(" + thing + ") of a new object", none.with(thing), 1 << thing);
            due("with(" + thing + ") of all in a row", all.with(thing), 63);
        }
        all.open(2);
        due("with(0), one opened", all.with(0), 7);
        due("with(2), one opened", all.with(2), 7);
        due("with(3), one opened", all.with(3), 56);
        due("with(5), one opened", all.with(5), 56);
        all.open(4);
        due("with(5), alone", all.with(5), 32);
        due("with(4)", all.with(4), 24);
        all.shut(2);
        due("with(4), shut again", all.with(4), 31);
    }

    static void p07_byShutPins() {
        sentence(7, "Two THINGS are TOGETHER, if one comes from the one to the other by SHUT PINS (each with itself).");
        // the last pin told is the first on the way, so that one look at each pin is too few
        SafetyPinsCounted x = of("SN4510N3410N2310N1210N0110N0110N0110");
        due("with(0), five pins away", x.with(0), 63);
        due("with(5), five pins away", x.with(5), 63);
        x.open(4);
        x.open(5);
        due("with(0), one of three left", x.with(0), 63);
        x.open(6);
        due("with(0), none of three left", x.with(0), 1);
        due("with(5)", x.with(5), 62);
    }
}
