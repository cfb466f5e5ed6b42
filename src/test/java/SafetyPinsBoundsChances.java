/** The bounds of promises 20 to 27 and 30: tried, shares, rests, chances, seasons, counts. */
final class SafetyPinsBoundsChances extends SafetyPinsBench {
    // ---- promise 20

    static void p20_loads0To12() {
        sentence(20, "by a LOAD of p (0 to 12) at one end gave (1), or not (0)");
        for (int gave = 0; gave <= 1; gave++) {
            int as = gave;
            for (int p = 0; p <= 12; p++) {
                due("trial(" + p + ", " + gave + ")", fresh().trial(p, gave), 1);
                due("trial(" + p + ", " + gave + ") behind two", half().trial(p, gave), 3);
            }
            for (int p : new int[] {LEAST, -1, 13, 14, MOST}) {
                refusedAlways(OUTSIDE, "trial(" + p + ", " + gave + ")", x -> x.trial(p, as));
            }
        }
        for (int p : new int[] {LEAST, -1, 0, 12, 13, MOST}) {
            for (int gave : new int[] {LEAST, -1, 2, 3, MOST}) {
                refusedAlways(OUTSIDE, "trial(" + p + ", " + gave + ")", x -> x.trial(p, gave));
            }
        }
    }

    static void p20_sixAtMost() {
        sentence(20, "6 such at most, none at first");
        SafetyPinsCounted x = fresh();
        due("count(10), none at first", x.count(10), 0);
        for (int tried = 1; tried <= 5; tried++) {
            due("trial(4, 0)", x.trial(4, 0), tried);
        }
        due("trial(5, 1), the last that is taken", x.trial(5, 1), 6);
        due("trial(5, 1), the first that is refused", x.trial(5, 1), FULL);
        due("count(10)", x.count(10), 6);
        due("which(0): plain 4, brass 1", x.which(0), 2);
        due("untry()", x.untry(), 6);
        due("trial(5, 1), room again", x.trial(5, 1), 1);
        for (int gave = 0; gave <= 1; gave++) {
            int as = gave;
            answersAndChangesNothing(SafetyPinsBench::crowded, "trial(0, " + gave + "), full", y -> y.trial(0, as), FULL);
            answersAndChangesNothing(SafetyPinsBench::crowded, "trial(12, " + gave + "), full", y -> y.trial(12, as), FULL);
        }
    }

    static void p20_outsideBeforeFull() {
        sentence(20, "OUTSIDE: p, gave (0, 1); FULL: 6.");
        for (int p : new int[] {LEAST, -1, 13, MOST}) {
            answersAndChangesNothing(SafetyPinsBench::crowded, "trial(" + p + ", 1), full", x -> x.trial(p, 1), OUTSIDE);
        }
        for (int gave : new int[] {LEAST, -1, 2, MOST}) {
            answersAndChangesNothing(SafetyPinsBench::crowded, "trial(3, " + gave + "), full", x -> x.trial(3, gave), OUTSIDE);
        }
    }

    // ---- promise 21

    static void p21_howMuchThereWas() {
        sentence(21, "Nothing is TRIED: how much there was.");
        for (int tried = 0; tried <= 7; tried++) {
            SafetyPinsCounted x = fresh();
            for (int i = 0; i < tried; i++) {
                x.trial(0, 1);
            }
            due("untry() behind " + tried, x.untry(), Math.min(6, tried));
            due("untry(), nothing there", x.untry(), 0);
            due("count(10)", x.count(10), 0);
            due("which(0), nothing rules one out", x.which(0), 20);
            due("trial(12, 0)", x.trial(12, 0), 1);
            due("which(0), only that", x.which(0), 1);
        }
    }

    // ---- promise 22

    private static SafetyPinsCounted tried(int... loadsAndGave) {
        SafetyPinsCounted x = fresh();
        for (int i = 0; i < loadsAndGave.length; i += 2) {
            x.trial(loadsAndGave[i], loadsAndGave[i + 1]);
        }
        return x;
    }

    private static void which(SafetyPinsCounted x, String told, int howMany, int first) {
        due("which(0) by " + told, x.which(0), howMany);
        due("which(1) by " + told, x.which(1), first);
    }

    static void p22_whatIs0Or1() {
        sentence(22, "WHICH: how many (what = 0), the first (1); NONE. OUTSIDE.");
        refusedFor(OUTSIDE, "which", SafetyPinsCounted::which, -1, 2, 3, LEAST, MOST);
        answersAndChangesNothing(SafetyPinsBench::fresh, "which(0)", x -> x.which(0), 20);
        answersAndChangesNothing(SafetyPinsBench::fresh, "which(1)", x -> x.which(1), 0);
        answersAndChangesNothing(SafetyPinsBench::half, "which(0): 3 or 4 held", x -> x.which(0), 4);
        answersAndChangesNothing(SafetyPinsBench::half, "which(1)", x -> x.which(1), 3);
        answersAndChangesNothing(SafetyPinsBench::crowded, "which(0): 9 held", x -> x.which(0), 2);
        answersAndChangesNothing(SafetyPinsBench::crowded, "which(1)", x -> x.which(1), 9);
    }

    static void p22_twentyThereAre() {
        sentence(22, "KINDS (0, 1) and STRENGTHS (0 to 9) by which all that is TRIED is so: how many (20 there are); the first (10 times KIND and STRENGTH); NONE.");
        which(fresh(), "nothing", 20, 0);
        for (int p = 0; p <= 12; p++) {
            int givingPlain = Math.min(10, p);
            int givingBrass = Math.max(0, p - 3);
            which(tried(p, 1), p + " gave", givingPlain + givingBrass, p == 0 ? NONE : 0);
            int firstHeld = p <= 9 ? p : 10 + p - 3;
            which(tried(p, 0), p + " held", 20 - givingPlain - givingBrass, firstHeld);
        }
        for (int held = 0; held <= 11; held++) {
            int plain = held <= 9 ? 1 : 0;
            int brass = held >= 3 ? 1 : 0;
            int first = plain == 1 ? held : 10 + held - 3;
            which(tried(held, 0, held + 1, 1), held + " held and one more gave", plain + brass, first);
            which(tried(held, 0, held, 1), held + " held and gave", 0, NONE);
        }
        which(tried(12, 0), "12 held, the strongest brass", 1, 19);
        which(tried(12, 1, 11, 0), "11 held and 12 gave", 1, 18);
        which(tried(0, 0, 0, 0, 0, 0, 12, 1, 12, 1, 0, 1), "the sixth alone rules all out", 0, NONE);
        which(tried(0, 1, 12, 0, 12, 0, 12, 0, 12, 0, 12, 0), "the first alone rules all out", 0, NONE);
    }

    // ---- promise 23

    private static void share(SafetyPinsCounted x, int pin, int above, int below) {
        due("share(" + pin + ", true)", x.share(pin, true), above);
        due("share(" + pin + ", false)", x.share(pin, false), below);
    }

    static void p23_pinsThereAre() {
        sentence(23, "refusals of them are told likewise");
        knowsPins("share above", (x, pin) -> x.share(pin, true));
        knowsPins("share below", (x, pin) -> x.share(pin, false));
    }

    static void p23_anOpenOneHas0() {
        sentence(23, "(one that is OPEN: 0)");
        SafetyPinsCounted x = of("SN0110N0110N0110N0110N0110N0110N0110");
        share(x, 0, 1, 7);
        for (int pin = 0; pin <= 5; pin++) {
            x.open(pin);
            share(x, pin, 0, 1);
            share(x, 6, 1, 6 - pin);
        }
        x.open(6);
        share(x, 6, 0, 1);
        x.shut(3);
        share(x, 3, 1, 1);
        share(x, 6, 0, 1);
    }

    static void p23_inTheMean() {
        sentence(23, "by how many in the mean pairs of THINGS (15 there are) that are TOGETHER are more when it has come than they were");
        share(of("SN0110"), 0, 1, 1);
        share(of("SN0110N2310"), 0, 1, 1);
        share(of("SN0110N1210"), 1, 3, 2);
        share(of("SN0110N1210N0210"), 2, 1, 1);
        // the shares of all pins together are all pairs that are together at the end
        SafetyPinsCounted row = of("SN0110N1210N2310N3410N4510");
        double sum = 0;
        for (int pin = 0; pin <= 4; pin++) {
            sum += (double) row.share(pin, true) / row.share(pin, false);
        }
        due("60 times all shares of a row", Math.round(60 * sum), 60 * 15);
        share(row, 2, 37, 10);
        share(row, 0, 137, 60);
        share(row, 4, 137, 60);
        SafetyPinsCounted seven = of("SN0110N1210N2310N3410N4510N5010N0310");
        sum = 0;
        for (int pin = 0; pin <= 6; pin++) {
            sum += (double) seven.share(pin, true) / seven.share(pin, false);
        }
        due("5040 times all shares of seven", Math.round(5040 * sum), 5040 * 15);
    }

    static void p23_leastTerms() {
        sentence(23, "FRACTIONS are told above (upper = true; below 0, if they are), below (1 and more), in least terms");
        share(of("SN0110N0110"), 1, 1, 2);
        share(of("SN0110N0110N1210"), 0, 2, 3);
        share(of("SN0110N0110N1210"), 2, 5, 3);
        share(of("SN0110N1210N0210"), 0, 1, 1);
    }

    static void p23_nothingIsChanged() {
        sentence(23, "if PINS that are SHUT come one by one, in each order as likely");
        for (int pin = 0; pin <= 6; pin++) {
            int of = pin;
            changesNothing(SafetyPinsBench::stirred, "share(" + pin + ")", x -> x.share(of, true));
        }
    }

    // ---- promise 24

    private static void rests(String town, int howMany, int first) {
        SafetyPinsCounted x = of(town);
        due("rests(0, 1, 0) of " + town, x.rests(0, 1, 0), howMany);
        due("rests(0, 1, 1) of " + town, x.rests(0, 1, 1), first);
    }

    static void p24_twoThingsAndWhat() {
        sentence(24, "UNKNOWN: both; OUTSIDE: both are one, what.");
        knowsTwoThings("rests for 0", (x, one, other) -> x.rests(one, other, 0));
        knowsTwoThings("rests for 1", (x, one, other) -> x.rests(one, other, 1));
        for (int what : new int[] {LEAST, -1, 2, 3, MOST}) {
            refusedAlways(OUTSIDE, "rests(0, 5, " + what + ")", x -> x.rests(0, 5, what));
            refusedAlways(OUTSIDE, "rests(3, 3, " + what + ")", x -> x.rests(3, 3, what));
            refusedAlways(UNKNOWN, "rests(0, 6, " + what + ")", x -> x.rests(0, 6, what));
            refusedAlways(UNKNOWN, "rests(-1, 5, " + what + ")", x -> x.rests(-1, 5, what));
            refusedAlways(UNKNOWN, "rests(6, 6, " + what + ")", x -> x.rests(6, 6, what));
        }
    }

    static void p24_loads03And6() {
        sentence(24, "at each somebody gives it a LOAD of 0, 3 or 6, both at once (others 0), then PINGS");
        rests("SN0100", 2, 1);
        rests("SN0120", 2, 1);
        rests("SN0130", 4, 0);
        rests("SN0150", 4, 0);
        rests("SN0160", 3, 0);
        rests("SN0180", 3, 0);
        rests("SN0190", 2, 0);
        rests("SN0161", 2, 0);
        rests("SN0181", 2, 0);
        rests("SN0191", 1, 0);
        rests("SN0193", 2, 0);
    }

    static void p24_aloneIsLess() {
        sentence(24, "each has 4, if the two are not TOGETHER then, less 0, 1, 2 for what it gave, and less 2, if its THING is TOGETHER with none but itself");
        rests("S", 1, 0);
        rests("SN0290N1390", 1, 0);
        rests("SN0230N1390", 1, 0);
        // who is left alone by his own 6 has no more than by 0: (0, 0), (1, 1), (0, 2), (2, 0)
        rests("SN0130", 4, 0);
        // 1 is not left alone, and has 4 less 2 by his 6: (0, 0) is no rest
        rests("SN0130N1290", 3, 2);
        rests("SN0130N0290", 3, 2);
        rests("SN0130N0290N1390", 3, 2);
    }

    static void p24_pairs0To2() {
        sentence(24, "pairs (0 to 2) in which neither has more by another choice alone: how many; the first (10 times the one and the other); NONE.");
        onlyAtRest("SN0250N2191N0391", 20);
        onlyAtRest("SN0220N2191N0391", 10);
        onlyAtRest("SN1250N2091N1391", 2);
        onlyAtRest("SN1220N2091N1391", 1);
        onlyAtRest("SN0291N1391", 0);
        SafetyPinsCounted both = of("SN0190N0291N1391");
        due("rests(0, 1, 0), none gives or both give 6", both.rests(0, 1, 0), 2);
        // one there always is: more load opens no fewer pins, so a pair that parts them by least is at rest
        for (int kind = 0; kind <= 3; kind++) {
            for (int strength = 0; strength <= 9; strength++) {
                SafetyPinsCounted y = of("SN01" + strength + kind + "N1230N2031N1430");
                due("rests(0, 1, 1) is NONE", y.rests(0, 1, 1) == NONE ? 1 : 0, 0);
                due("rests(0, 1, 0) is 0", y.rests(0, 1, 0) == 0 ? 1 : 0, 0);
            }
        }
    }

    /** The one pair at rest, seen from the one and from the other. */
    private static void onlyAtRest(String town, int pair) {
        rests(town, 1, pair);
        SafetyPinsCounted x = of(town);
        due("rests(1, 0, 0) of " + town, x.rests(1, 0, 0), 1);
        due("rests(1, 0, 1) of " + town, x.rests(1, 0, 1), pair % 10 * 10 + pair / 10);
    }

    static void p24_nothingIsChanged() {
        sentence(24, "at each somebody gives it a LOAD of 0, 3 or 6");
        changesNothing(SafetyPinsBench::half, "rests(0, 1, 0)", x -> x.rests(0, 1, 0));
        changesNothing(SafetyPinsBench::stirred, "rests(3, 4, 1)", x -> x.rests(3, 4, 1));
    }

    // ---- promise 25

    private static void gives(SafetyPinsCounted x, int tenths, int above, int below) {
        due("gives(0, 5, " + tenths + ", true)", x.gives(0, 5, tenths, true), above);
        due("gives(0, 5, " + tenths + ", false)", x.gives(0, 5, tenths, false), below);
    }

    static void p25_twoThingsAndTenths() {
        sentence(25, "UNKNOWN: both; OUTSIDE: both are one, x.");
        knowsTwoThings("gives above", (x, one, other) -> x.gives(one, other, 5, true));
        knowsTwoThings("gives below", (x, one, other) -> x.gives(one, other, 5, false));
        for (int tenths : new int[] {LEAST, -1, 11, 12, MOST}) {
            for (boolean upper : new boolean[] {true, false}) {
                String told = tenths + ", " + upper + ")";
                refusedAlways(OUTSIDE, "gives(0, 5, " + told, x -> x.gives(0, 5, tenths, upper));
                refusedAlways(OUTSIDE, "gives(3, 3, " + told, x -> x.gives(3, 3, tenths, upper));
                refusedAlways(UNKNOWN, "gives(0, 6, " + told, x -> x.gives(0, 6, tenths, upper));
                refusedAlways(UNKNOWN, "gives(-1, 5, " + told, x -> x.gives(-1, 5, tenths, upper));
                refusedAlways(UNKNOWN, "gives(6, 6, " + told, x -> x.gives(6, 6, tenths, upper));
            }
        }
    }

    static void p25_tenths0To10() {
        sentence(25, "each SHUT PIN is OPEN by x tenths (0 to 10), by itself, nothing else following: that two THINGS are TOGETHER then: a FRACTION.");
        int[][] due = {{1, 1}, {9, 10}, {4, 5}, {7, 10}, {3, 5}, {1, 2}, {2, 5}, {3, 10}, {1, 5}, {1, 10}, {0, 1}};
        for (int tenths = 0; tenths <= 10; tenths++) {
            gives(of("SN0500"), tenths, due[tenths][0], due[tenths][1]);
            gives(fresh(), tenths, 0, 1);
        }
        SafetyPinsCounted seven = of("S" + "N0510".repeat(7));
        gives(seven, 0, 1, 1);
        gives(seven, 1, 9999999, 10000000);
        gives(seven, 5, 127, 128);
        gives(seven, 9, 5217031, 10000000);
        gives(seven, 10, 0, 1);
        seven.tug(0, 2);
        gives(seven, 0, 0, 1);
        gives(seven, 10, 0, 1);
        seven.shut(6);
        gives(seven, 9, 1, 10);
        SafetyPinsCounted row = of("SN0100N1200N2300N3400N4500");
        gives(row, 0, 1, 1);
        gives(row, 1, 59049, 100000);
        gives(row, 5, 1, 32);
        gives(row, 9, 1, 100000);
        gives(row, 10, 0, 1);
    }

    static void p25_nothingIsChanged() {
        sentence(25, "nothing else following");
        changesNothing(SafetyPinsBench::half, "gives(0, 1, 10)", x -> x.gives(0, 1, 10, true));
        changesNothing(SafetyPinsBench::stirred, "gives(3, 4, 5)", x -> x.gives(3, 4, 5, false));
    }

    // ---- promise 26

    static void p26_anyLong() {
        sentence(26, "x (THE SEED, a long; 0 at first)");
        SafetyPinsCounted x = fresh();
        long was = 0;
        for (long seed : new long[] {Long.MIN_VALUE, Long.MAX_VALUE, -1, 0, 1, 1L << 32, -1L << 31, LEAST, MOST}) {
            due("seed(" + seed + ")", x.seed(seed), was);
            was = seed;
        }
        due("seed(0)", x.seed(0), was);
        due("seed(0)", x.seed(0), 0);
    }

    // ---- promise 27

    private static void seasons(String told, SafetyPinsCounted x, int want, int... lots) {
        x.seed(seedFor(lots));
        due("seasons(" + lots.length + "), " + told, x.seasons(lots.length), want);
    }

    private static SafetyPinsCounted opened(String town, int pins) {
        SafetyPinsCounted x = of(town);
        for (int pin = 0; pin < pins; pin++) {
            x.open(pin);
        }
        return x;
    }

    static void p27_m1To30() {
        sentence(27, "SEASONS by THE SEED: m times (1 to 30)");
        refusedFor(OUTSIDE, "seasons", SafetyPinsCounted::seasons, 0, 31, -1, 32, LEAST, MOST);
        for (int m : new int[] {1, 2, 29, 30}) {
            SafetyPinsCounted x = fresh();
            due("seasons(" + m + ") of no pins", x.seasons(m), 0);
            long seed = 0;
            for (int i = 0; i < m; i++) {
                seed = seed * FACTOR + ADDED;
            }
            due("seed(0) behind " + m, x.seed(0), seed);
        }
    }

    static void p27_wrapping() {
        sentence(27, "becomes x times 6364136223846793005 and 1442695040888963407 (64 bits, wrapping)");
        for (long seed : new long[] {0, 1, -1, 2, Long.MIN_VALUE, Long.MAX_VALUE, before(0), before(-1)}) {
            SafetyPinsCounted x = fresh();
            x.seed(seed);
            x.seasons(1);
            due("seed(0) behind " + seed, x.seed(0), seed * FACTOR + ADDED);
        }
        SafetyPinsCounted two = fresh();
        two.seed(2);
        two.seasons(1);
        due("seed(0) behind 2", two.seed(0), -4275776585127002199L);
    }

    static void p27_upper31BitsBy32() {
        sentence(27, "its upper 31 bits by 32, what is left");
        long[] states = {0, (1L << 33) - 1, 5L << 33, (6L << 33) - 1, Long.MAX_VALUE, Long.MIN_VALUE, -1, -1L << 33, (-1L << 33) - 1};
        int[] lots = {0, 0, 5, 5, 31, 0, 31, 31, 30};
        for (int i = 0; i < states.length; i++) {
            due("the lot of " + states[i], lotOf(states[i]), lots[i]);
            // 0-1 gives by a tug at 0, 4-5 by one at 5, 2-3 by a day
            SafetyPinsCounted x = of("SN0100N4500N0100N4500N4500N2300W21");
            x.seed(before(states[i]));
            int want = lots[i] == 0 ? 2 : lots[i] == 5 ? 3 : 1;
            due("seasons(1) to " + states[i], x.seasons(1), want);
        }
    }

    static void p27_tuggedBy4() {
        sentence(27, "0 to 5 that THING is TUGGED by 4");
        for (int lot = 0; lot <= 5; lot++) {
            String ends = "N" + lot + (lot + 1) % 6;
            seasons("4 are more than 3 at " + lot, of("S" + ends + "30"), 1, lot);
            seasons("4 are not more than 4 at " + lot, of("S" + ends + "40"), 0, lot);
            seasons("no pin at " + lot, of("SN" + (lot + 1) % 6 + (lot + 2) % 6 + "00"), 0, lot);
        }
        seasons("6 is no thing", of("SN0500N4500N1200N2300"), 0, 6);
    }

    static void p27_shutIfThereIsSuchAOne() {
        sentence(27, "6 to 12 that less 6 PIN is SHUT, if there is such a one and it is OPEN");
        String seven = "S" + "N0190".repeat(7);
        for (int lot = 6; lot <= 12; lot++) {
            seasons("all open, lot " + lot, opened(seven, 7), 6, lot);
            seasons("all shut, lot " + lot, opened(seven, 0), 0, lot);
            int there = lot - 6;
            seasons("no such pin, lot " + lot, opened("S" + "N0190".repeat(there), there), there, lot);
            seasons("the last pin, lot " + lot, opened("S" + "N0190".repeat(there + 1), there + 1), there, lot);
        }
        seasons("twice one pin", opened(seven, 7), 12, 7, 7);
        SafetyPinsCounted worn = of("SN0112W01");
        worn.day();
        worn.open(0);
        seasons("its wear is 0 then", worn, 0, 6, 20);
        seasons("and it wears", worn, 1, 6, 20, 31);
    }

    static void p27_openedIfThereIsSuchAOne() {
        sentence(27, "13 to 19 that less 13 PIN is OPENED, if there is such a one and it is SHUT");
        String seven = "S" + "N0190".repeat(7);
        for (int lot = 13; lot <= 19; lot++) {
            seasons("all shut, lot " + lot, opened(seven, 0), 1, lot);
            seasons("all open, lot " + lot, opened(seven, 7), 7, lot);
            int there = lot - 13;
            seasons("no such pin, lot " + lot, opened("S" + "N0190".repeat(there), 0), 0, lot);
            seasons("the last pin, lot " + lot, opened("S" + "N0190".repeat(there + 1), 0), 1, lot);
        }
        seasons("opened and shut", opened(seven, 0), 1, 13, 6);
        seasons("opened, the other one, none such", opened("SN0190N0190", 0), 5, 13, 14, 15);
    }

    static void p27_aDay() {
        sentence(27, "20 and more A DAY: how many PINS are OPEN, each time, together.");
        for (int lot = 13; lot <= 31; lot++) {
            seasons("a day by lot " + lot, of("SN0190N2300W21"), lot == 13 || lot == 14 || lot >= 20 ? 1 : 0, lot);
        }
        seasons("each time", of("SN0113W02W00"), 2, 20, 31, 20);
        seasons("the days go on", of("SN0190N2300W00W21"), 1, 25, 20);
    }

    static void p27_nothingButTheSeed() {
        sentence(27, "(Nothing changes but THE SEED.)");
        for (int m : new int[] {1, 30}) {
            SafetyPinsCounted x = crowded();
            x.seasons(m);
            SafetyPinsCounted y = crowded();
            long seed = Long.MIN_VALUE;
            for (int i = 0; i < m; i++) {
                seed = seed * FACTOR + ADDED;
            }
            y.seed(seed);
            sameAs(y, "seasons(" + m + ")", x);
        }
    }

    // ---- promise 30

    private static void counts(SafetyPinsCounted x, String told, int... want) {
        for (int what = 0; what <= 10; what++) {
            due("count(" + what + ") of " + told, x.count(what), want[what]);
        }
    }

    static void p30_whatIs0To10() {
        sentence(30, "10 TRIED. OUTSIDE.");
        refusedFor(OUTSIDE, "count", SafetyPinsCounted::count, -1, 11, 12, 32, LEAST, MOST);
        counts(fresh(), "a new object", 0, 0, 0, 0, 0, 0, 0, 0, 0, 0, 0);
    }

    static void p30_nothingYet() {
        sentence(30, "0 letters of THE TEXT, 1 PINS, 2 PULLS, 3 DEEDS, 4 THE DAY");
        counts(of("S"), "an empty town", 1, 0, 0, 0, 0, 0, 0, 0, 0, 0, 0);
        counts(of("SD01"), "a deed", 4, 0, 0, 1, 0, 0, 1, 0, 0, 0, 0);
        counts(of("SW01"), "a pull", 4, 0, 1, 0, 0, 0, 0, 0, 0, 0, 0);
        counts(of("SN0110"), "a pin", 6, 1, 0, 0, 0, 0, 0, 1, 0, 0, 0);
        counts(fresh().tell("SN0110"), "a text that is no town yet", 6, 0, 0, 0, 0, 0, 0, 0, 0, 0, 0);
    }

    static void p30_allThereCanBe() {
        sentence(30, "5 PINS that are OPEN (bits), 6 DEEDS that can be done (bits), 7 pairs of THINGS that are TOGETHER, 8 WEAR of all, 9 ACTS in the row");
        SafetyPinsCounted x = of("SN0192N0192N0192N0192N0192N0192N0192W01W01W01W01D01D01D01");
        counts(x, "seven pins", 57, 7, 4, 3, 0, 0, 0, 1, 0, 0, 0);
        days(x, 9);
        for (int p = 0; p <= 5; p++) {
            x.trial(p, 0);
        }
        x.write(0);
        x.write(0);
        x.write(0);
        counts(x, "all of them worn", 60, 7, 4, 3, 9, 0, 0, 1, 63, 9, 6);
        days(x, 6);
        counts(x, "all of them open", 60, 7, 4, 3, 15, 127, 7, 0, 63, 14, 6);
        SafetyPinsCounted row = of("SN0110N1210N2310N3410N4510D05D12D34");
        due("count(7), all of 15", row.count(7), 15);
        row.open(2);
        due("count(7), three and three", row.count(7), 6);
        due("count(6), the first deed", row.count(6), 1);
        row.open(3);
        due("count(6), the first and the last", row.count(6), 5);
        due("count(5)", row.count(5), 12);
        due("count(7), three and two", row.count(7), 4);
    }
}
