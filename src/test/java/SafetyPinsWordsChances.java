import java.math.BigInteger;
import java.util.Random;

/** Promises 20 to 27 and 30: tried, shares, rests, chances, seasons and counts by what is done, case by case. */
final class SafetyPinsWordsChances extends SafetyPinsWords {
    private static void fraction(String call, long gotAbove, long gotBelow, BigInteger above, BigInteger below) {
        BigInteger common = above.gcd(below);
        due(call + ", above", gotAbove, above.divide(common).longValueExact());
        due(call + ", below", gotBelow, below.divide(common).longValueExact());
    }

    // ---- promises 20 to 22

    /** Whether a pin gives by a load of p at one end, and none at the other: of a town with that pin, pulled so. */
    private static boolean isGiving(int kind, int strength, int p) {
        int byPings = Math.max(0, p - 9);
        String town = "SN01" + strength + kind + "N0200".repeat(byPings) + "W0" + (p - byPings);
        SafetyPinsCounted x = of(town);
        x.day();
        return x.pin(0, 6) == 1;
    }

    static void p20_asAPinDoes() {
        sentence(20, "TRIED: that an unknown PIN, PLAIN or BRASS, by a LOAD of p (0 to 12) at one end gave (1), or not (0): 6 such at most, none at first.");
        for (int p = 0; p <= 12; p++) {
            int giving = 0;
            int firstGiving = NONE;
            int firstHolding = NONE;
            for (int guess = 19; guess >= 0; guess--) {
                boolean gives = isGiving(guess / 10, guess % 10, p);
                giving += gives ? 1 : 0;
                firstGiving = gives ? guess : firstGiving;
                firstHolding = gives ? firstHolding : guess;
            }
            SafetyPinsCounted x = fresh();
            x.trial(p, 1);
            due("which(0), " + p + " gave", x.which(0), giving);
            due("which(1), " + p + " gave", x.which(1), firstGiving);
            x.untry();
            x.trial(p, 0);
            due("which(0), " + p + " held", x.which(0), 20 - giving);
            due("which(1), " + p + " held", x.which(1), firstHolding);
        }
    }

    static void p20_howManyThereAre() {
        sentence(20, "TRIED: how many there are.");
        SafetyPinsCounted x = fresh();
        for (int tried = 1; tried <= 6; tried++) {
            due("trial(3, 1), alike or not", x.trial(3, tried % 2), tried);
            due("count(10)", x.count(10), tried);
        }
        due("which(0), 3 gave and did not", x.which(0), 0);
        due("untry()", x.untry(), 6);
    }

    static void p20_nothingElse() {
        sentence(20, "TRIED: that an unknown PIN, PLAIN or BRASS,");
        everywhere(8, (where, scene) -> {
            SafetyPinsCounted x = scene.make();
            SafetyPinsCounted y = scene.make();
            x.untry();
            y.untry();
            due("trial(5, 1) " + where, x.trial(5, 1), 1);
            due("untry() " + where, x.untry(), 1);
            sameAs(y, "trial and untry " + where, x);
        });
    }

    static void p22_byAllThatIsTried() {
        sentence(22, "WHICH: KINDS (0, 1) and STRENGTHS (0 to 9) by which all that is TRIED is so");
        boolean[][] giving = new boolean[20][13];
        for (int guess = 0; guess < 20; guess++) {
            for (int p = 0; p <= 12; p++) {
                giving[guess][p] = isGiving(guess / 10, guess % 10, p);
            }
        }
        Random dice = new Random(22);
        for (int i = 0; i < 400; i++) {
            SafetyPinsCounted x = fresh();
            int real = dice.nextInt(20);
            boolean[] fits = new boolean[20];
            java.util.Arrays.fill(fits, true);
            for (int tried = dice.nextInt(7); tried > 0; tried--) {
                int p = dice.nextInt(13);
                boolean gave = giving[real][p] ^ dice.nextInt(20) == 0;
                x.trial(p, gave ? 1 : 0);
                for (int guess = 0; guess < 20; guess++) {
                    fits[guess] &= giving[guess][p] == gave;
                }
            }
            which(x, fits);
        }
    }

    private static void which(SafetyPinsCounted x, boolean[] fits) {
        int howMany = 0;
        int first = NONE;
        for (int guess = 19; guess >= 0; guess--) {
            howMany += fits[guess] ? 1 : 0;
            first = fits[guess] ? guess : first;
        }
        due("which(0) of " + x.count(10) + " tried", x.which(0), howMany);
        due("which(1) of " + x.count(10) + " tried", x.which(1), first);
    }

    static void p22_nothingIsChanged() {
        sentence(22, "WHICH: how many (what = 0), the first (1); NONE. OUTSIDE.");
        changesNothingAnywhere("which(0)", x -> x.which(0));
        changesNothingAnywhere("which(1)", x -> x.which(1));
    }

    // ---- promise 23

    /** By how many pairs a pin makes more together, summed over all orders of what is still to come. */
    private static int pairsMade(int[] pairs, int came, int toCome, int pin) {
        int sum = 0;
        for (int next = 0; next <= 6; next++) {
            if ((toCome >> next & 1) == 0) {
                continue;
            }
            int then = came | 1 << next;
            if (next == pin) {
                int orders = 1;
                for (int left = Integer.bitCount(toCome) - 1; left >= 2; left--) {
                    orders *= left;
                }
                sum += orders * (pairs[then] - pairs[came]);
            } else {
                sum += pairsMade(pairs, then, toCome & ~(1 << next), pin);
            }
        }
        return sum;
    }

    static void p23_inEachOrder() {
        sentence(23, "SHARE of a PIN: if PINS that are SHUT come one by one, in each order as likely (one that is OPEN: 0): by how many "
            + "in the mean pairs of THINGS (15 there are) that are TOGETHER are more when it has come than they were: a FRACTION.");
        sentence(23, "SHARE. UNKNOWN.");
        everywhere(25, (where, scene) -> {
            Pins told = pinsOf(scene.make());
            int shut = told.shut();
            int[] pairs = new int[128];
            for (int came = 0; came <= 127; came++) {
                pairs[came] = (came & ~shut) == 0 ? opened(scene, shut & ~came).count(7) : 0;
            }
            BigInteger orders = BigInteger.ONE;
            for (int i = 2; i <= Integer.bitCount(shut); i++) {
                orders = orders.multiply(BigInteger.valueOf(i));
            }
            SafetyPinsCounted x = scene.make();
            for (int pin = 0; pin < told.number(); pin++) {
                BigInteger made = BigInteger.valueOf(pairsMade(pairs, 0, shut, pin));
                fraction("share(" + pin + ") " + where, x.share(pin, true), x.share(pin, false), made, orders);
            }
            due("share of no such pin " + where, x.share(told.number(), true), UNKNOWN);
        });
    }

    static void p23_strengthsAndKindsAreNoMatter() {
        sentence(23, "if PINS that are SHUT come one by one");
        for (int kind = PLAIN; kind <= SPRUNG; kind++) {
            SafetyPinsCounted x = of("SN010" + kind + "N019" + kind + "N120" + kind + "W09");
            due("share(0, true) of kind " + kind, x.share(0, true), 2);
            due("share(0, false) of kind " + kind, x.share(0, false), 3);
            due("share(2, true) of kind " + kind, x.share(2, true), 5);
            due("share(2, false) of kind " + kind, x.share(2, false), 3);
        }
    }

    static void p23_changesNothing() {
        sentence(23, "SHARE. UNKNOWN.");
        changesNothingAnywhere("share(0, true)", x -> x.share(0, true));
        changesNothingAnywhere("share(1, false)", x -> x.share(1, false));
    }

    // ---- promise 24

    private static int[] gains(Pins pins, int one, int other, int mine, int yours) {
        int[] loads = new int[6];
        loads[one] = 3 * mine;
        loads[other] = 3 * yours;
        int open = pins.pings(pins.open(), loads);
        int parted = pins.areTogether(one, other, open) ? 0 : 4;
        int alone = pins.company(one, open) == 1 << one ? 2 : 0;
        int otherAlone = pins.company(other, open) == 1 << other ? 2 : 0;
        return new int[] {parted - mine - alone, parted - yours - otherAlone};
    }

    private static boolean isAtRest(Pins pins, int one, int other, int mine, int yours) {
        int[] here = gains(pins, one, other, mine, yours);
        for (int choice = 0; choice <= 2; choice++) {
            if (gains(pins, one, other, choice, yours)[0] > here[0] || gains(pins, one, other, mine, choice)[1] > here[1]) {
                return false;
            }
        }
        return true;
    }

    static void p24_byTheWords() {
        sentence(24, "RESTS of two THINGS: at each somebody gives it a LOAD of 0, 3 or 6, both at once (others 0), then PINGS: each has 4, "
            + "if the two are not TOGETHER then, less 0, 1, 2 for what it gave, and less 2, if its THING is TOGETHER with none but itself: "
            + "pairs (0 to 2) in which neither has more by another choice alone: how many; the first (10 times the one and the other); NONE.");
        sentence(24, "RESTS: how many (what = 0), the first (1); NONE.");
        everywhere(80, (where, scene) -> {
            SafetyPinsCounted x = scene.make();
            Pins pins = pinsOf(x);
            for (int one = 0; one <= 5; one++) {
                for (int other = 0; other <= 5; other++) {
                    if (one != other) {
                        rests(where, x, pins, one, other);
                    }
                }
            }
        });
    }

    private static void rests(String where, SafetyPinsCounted x, Pins pins, int one, int other) {
        int howMany = 0;
        int first = NONE;
        for (int mine = 2; mine >= 0; mine--) {
            for (int yours = 2; yours >= 0; yours--) {
                if (isAtRest(pins, one, other, mine, yours)) {
                    howMany++;
                    first = 10 * mine + yours;
                }
            }
        }
        due("rests(" + one + ", " + other + ", 0) " + where, x.rests(one, other, 0), howMany);
        due("rests(" + one + ", " + other + ", 1) " + where, x.rests(one, other, 1), first);
    }

    static void p24_noDayNoPull() {
        sentence(24, "at each somebody gives it a LOAD of 0, 3 or 6, both at once (others 0), then PINGS");
        SafetyPinsCounted x = of("SN0123N0193W09");
        x.open(1);
        due("rests(0, 1, 0): a sprung one stays open, no pull", x.rests(0, 1, 0), 2);
        due("rests(0, 1, 1)", x.rests(0, 1, 1), 1);
        SafetyPinsCounted worn = of("SN0132W01");
        due("rests(0, 1, 0), it holds 3", worn.rests(0, 1, 0), 4);
        worn.day();
        due("rests(0, 1, 0), it holds 2", worn.rests(0, 1, 0), 2);
        changesNothingAnywhere("rests(0, 1, 0)", y -> y.rests(0, 1, 0));
        changesNothingAnywhere("rests(4, 2, 1)", y -> y.rests(4, 2, 1));
    }

    // ---- promise 25

    static void p25_eachByItself() {
        sentence(25, "GIVES: each SHUT PIN is OPEN by x tenths (0 to 10), by itself, nothing else following: that two THINGS are TOGETHER then: a FRACTION.");
        sentence(25, "GIVES.");
        everywhere(15, (where, scene) -> {
            int shut = pinsOf(scene.make()).shut();
            int[][] with = new int[128][];
            for (int given = 0; given <= 127; given++) {
                if ((given & ~shut) == 0) {
                    SafetyPinsCounted y = opened(scene, given);
                    with[given] = new int[] {y.with(0), y.with(1), y.with(2), y.with(3), y.with(4), y.with(5)};
                }
            }
            for (int tenths = 0; tenths <= 10; tenths++) {
                SafetyPinsCounted x = scene.make();
                for (int one = 0; one <= 5; one++) {
                    for (int other = 0; other <= 5; other++) {
                        if (one != other) {
                            String call = "gives(" + one + ", " + other + ", " + tenths + ") " + where;
                            gives(call, x, one, other, tenths, shut, with);
                        }
                    }
                }
            }
        });
    }

    private static void gives(String call, SafetyPinsCounted x, int one, int other, int tenths, int shut, int[][] with) {
        BigInteger above = BigInteger.ZERO;
        for (int given = 0; given <= 127; given++) {
            if (with[given] != null && (with[given][one] >> other & 1) == 1) {
                int open = Integer.bitCount(given);
                int holding = Integer.bitCount(shut) - open;
                above = above.add(BigInteger.valueOf(tenths).pow(open).multiply(BigInteger.valueOf(10 - tenths).pow(holding)));
            }
        }
        BigInteger below = BigInteger.TEN.pow(Integer.bitCount(shut));
        fraction(call, x.gives(one, other, tenths, true), x.gives(one, other, tenths, false), above, below);
    }

    static void p25_nothingIsChanged() {
        sentence(25, "GIVES.");
        changesNothingAnywhere("gives(0, 1, 5, true)", x -> x.gives(0, 1, 5, true));
        changesNothingAnywhere("gives(4, 2, 10, false)", x -> x.gives(4, 2, 10, false));
    }

    // ---- promises 26 and 27

    static void p26_theSeedAlone() {
        sentence(26, "THE SEED is v: what it was.");
        everywhere(12, (where, scene) -> {
            SafetyPinsCounted x = scene.make();
            long was = x.seed(12345);
            due("seed(was) " + where, x.seed(was), 12345);
            due("seed(was) again " + where, x.seed(was), was);
            sameAs(scene.make(), "seed there and back " + where, x);
        });
    }

    /** One season done by acts: 4 at a thing, by hand if it can be, or a day. */
    private static void pass(SafetyPinsCounted x, int lot) {
        if (lot <= 5) {
            x.tug(lot, 4);
        } else if (lot <= 12) {
            x.shut(lot - 6);
        } else if (lot <= 19) {
            x.open(lot - 13);
        } else {
            x.day();
        }
    }

    static void p27_asActsPass() {
        sentence(27, "SEASONS by THE SEED: m times (1 to 30) x (THE SEED, a long; 0 at first) becomes x times 6364136223846793005 and "
            + "1442695040888963407 (64 bits, wrapping); its upper 31 bits by 32, what is left: 0 to 5 that THING is TUGGED by 4, 6 to 12 "
            + "that less 6 PIN is SHUT, if there is such a one and it is OPEN, 13 to 19 that less 13 PIN is OPENED, if there is such a "
            + "one and it is SHUT; 20 and more A DAY: how many PINS are OPEN, each time, together. (Nothing changes but THE SEED.)");
        sentence(27, "SEASONS. OUTSIDE: m.");
        everywhere(40, (where, scene) -> {
            for (int m : new int[] {1, 2, 7, 30}) {
                SafetyPinsCounted x = scene.make();
                SafetyPinsCounted y = scene.make();
                long seed = x.seed(m);
                x.seed(seed);
                int want = 0;
                for (int i = 0; i < m; i++) {
                    seed = next(seed);
                    pass(y, lotOf(seed));
                    want += Integer.bitCount(y.count(5));
                }
                due("seasons(" + m + ") " + where, x.seasons(m), want);
                SafetyPinsCounted z = scene.make();
                z.seed(seed);
                sameAs(z, "seasons(" + m + ") " + where, x);
            }
        });
    }

    static void p27_onFromTheSeed() {
        sentence(27, "(Nothing changes but THE SEED.)");
        SafetyPinsCounted x = of(WHOLE_TOWN);
        long seed = 0;
        int all = 0;
        for (int call = 1; call <= 400; call++) {
            all += x.seasons(1);
            seed = next(seed);
        }
        due("seed(0) behind 400 seasons", x.seed(0), seed);
        due("count(4), each time from now on", x.count(4), 0);
        due("all of them, one at a time: a day gives 0-2 or none", all > 0 && all < 400 * 7 ? 1 : 0, 1);
    }

    // ---- promise 30

    static void p30_asTheOthersSay() {
        sentence(30, "0 letters of THE TEXT, 1 PINS, 2 PULLS, 3 DEEDS, 4 THE DAY, 5 PINS that are OPEN (bits), 6 DEEDS that can be done (bits), "
            + "7 pairs of THINGS that are TOGETHER, 8 WEAR of all, 9 ACTS in the row, 10 TRIED. OUTSIDE.");
        everywhere(40, (where, scene) -> {
            SafetyPinsCounted x = scene.make();
            Pins pins = pinsOf(x);
            int wear = 0;
            for (int worn : wearOf(x)) {
                wear += worn;
            }
            int pairs = 0;
            for (int thing = 0; thing <= 5; thing++) {
                pairs += Integer.bitCount(x.with(thing) >> thing + 1);
            }
            due("pin(count(1)) " + where, x.pin(x.count(1), 0), UNKNOWN);
            due("pin(count(1) - 1) " + where, x.count(1) == 0 ? 0 : x.pin(x.count(1) - 1, 6) >> 1, 0);
            due("letsGo(2 to the power of count(3)) " + where, x.letsGo(1 << x.count(3)), OUTSIDE);
            due("letsGo(count(6)), it can be done " + where, x.letsGo(x.count(6)), 0);
            due("count(5) " + where, x.count(5), pins.open());
            due("count(7) " + where, x.count(7), pairs);
            due("count(8) " + where, x.count(8), wear);
            due("keep(0) " + where, x.keep(0), x.count(4));
            for (int left = x.count(9) - 1; left >= 0; left--) {
                due("undo() " + where, x.undo(), left);
            }
            due("undo(), none left " + where, x.undo(), STATE);
            due("untry() " + where, x.count(10), x.untry());
            due("wipe() " + where, x.count(0), x.wipe());
        });
    }

    static void p30_nothingIsChanged() {
        sentence(30, "OUTSIDE.");
        for (int what = -1; what <= 11; what++) {
            int about = what;
            changesNothingAnywhere("count(" + what + ")", x -> x.count(about));
        }
    }
}
