import java.util.Random;
import java.util.function.IntPredicate;

/** Promises 13 to 19: what is foretold is what comes, when it is done. */
final class SafetyPinsWordsAhead extends SafetyPinsWords {

    /** Of some pins, the fewest with which opened it is so; of like ones the least: fewer first, then upward. */
    private static int fewest(int shut, IntPredicate isSo) {
        for (int number = 0; number <= 7; number++) {
            for (int cut = 0; cut <= 127; cut++) {
                if (Integer.bitCount(cut) == number && (cut & ~shut) == 0 && isSo.test(cut)) {
                    return cut;
                }
            }
        }
        throw new IllegalStateException("no such pins");
    }

    private static SafetyPinsCounted later(Scene scene, int days) {
        SafetyPinsCounted x = scene.make();
        days(x, days);
        return x;
    }

    // ---- promises 13 and 14

    static void p13_asDaysPass() {
        sentence(13, "IN n DAYS, as bits. OUTSIDE.");
        everywhere(40, (where, scene) -> {
            SafetyPinsCounted x = scene.make();
            SafetyPinsCounted passing = scene.make();
            for (int n = 0; n <= 20; n++) {
                due("later(" + n + ") " + where, x.later(n), passing.count(5));
                passing.day();
            }
            due("later(21) " + where, x.later(21), OUTSIDE);
            due("later(-1) " + where, x.later(-1), OUTSIDE);
        });
    }

    static void p13_fromLaterOn() {
        sentence(13, "IN n DAYS (0 to 20): PINS that are OPEN (bits).");
        everywhere(12, (where, scene) -> {
            for (int days = 1; days <= 5; days++) {
                due("later(5) " + where, scene.make().later(5), later(scene, days).later(5 - days));
            }
        });
    }

    static void p14_asDaysPass() {
        sentence(14, "LASTS of a PIN that is SHUT: in how many DAYS (1 to 20) it is OPEN first; NONE.");
        sentence(14, "LASTS; NONE.");
        everywhere(40, (where, scene) -> {
            SafetyPinsCounted x = scene.make();
            int open = x.count(5);
            for (int pin = 0; pin < x.count(1); pin++) {
                int lasts = open >> pin & 1;
                for (int n = 1; n <= 20 && lasts == 0; n++) {
                    lasts = (x.later(n) >> pin & 1) == 1 ? n : 0;
                }
                int want = (open >> pin & 1) == 1 ? STATE : lasts == 0 ? NONE : lasts;
                due("lasts(" + pin + ") " + where, x.lasts(pin), want);
            }
        });
    }

    static void p14_openFirstNotStill() {
        sentence(14, "it is OPEN first");
        SafetyPinsCounted x = of("SN0113W00W02W00W00");
        due("lasts(0), open on days 2, 6, 10", x.lasts(0), 2);
        due("later(3), shut again", x.later(3), 0);
        x.day();
        x.day();
        due("lasts(0), that is open now", x.lasts(0), STATE);
        x.day();
        due("lasts(0), on day 6", x.lasts(0), 3);
    }

    // ---- promise 15

    static void p15_byTheWords() {
        sentence(15, "CHAIN of a PIN that is SHUT: if it was OPEN now, and LOADS of both its ends 1, of others 0: PINS that are OPEN "
            + "behind PINGS by these and were not (bits; it as well).");
        sentence(15, "CHAIN, as bits.");
        everywhere(60, (where, scene) -> {
            SafetyPinsCounted x = scene.make();
            Pins pins = pinsOf(x);
            for (int pin = 0; pin < pins.number(); pin++) {
                int[] loads = new int[6];
                loads[pins.one()[pin]] = 1;
                loads[pins.other()[pin]] = 1;
                int open = pins.pings(pins.open() | 1 << pin, loads);
                int want = pins.isOpen(pin) ? STATE : open & ~pins.open();
                due("chain(" + pin + ") " + where, x.chain(pin), want);
            }
        });
    }

    static void p15_noDayNoPull() {
        sentence(15, "and LOADS of both its ends 1, of others 0");
        SafetyPinsCounted x = of("SN0190N1203N2313W09W29");
        x.open(1);
        due("chain(0): no pull, a sprung one stays open", x.chain(0), 1);
        due("chain(2): 1 at 2 and 3", x.chain(2), 4);
        x.shut(1);
        due("chain(0): 1 is more than 0, then 1 is not more than 1", x.chain(0), 3);
        due("chain(2): 1 is more than 0, then 0-1 has 1", x.chain(2), 6);
    }

    // ---- promises 16 and 18

    static void p16_asPinsAreOpened() {
        sentence(16, "CUTS of two THINGS: the fewest SHUT PINS (bits; of like ones the least) with which OPENED they are not TOGETHER");
        sentence(16, "CUTS, as bits.");
        everywhere(25, (where, scene) -> {
            int shut = shutPinsOf(scene);
            int[][] with = new int[128][6];
            for (int cut = 0; cut <= 127; cut++) {
                if ((cut & ~shut) == 0) {
                    SafetyPinsCounted y = opened(scene, cut);
                    for (int thing = 0; thing <= 5; thing++) {
                        with[cut][thing] = y.with(thing);
                    }
                }
            }
            SafetyPinsCounted x = scene.make();
            for (int one = 0; one <= 5; one++) {
                for (int other = 0; other <= 5; other++) {
                    int of = one;
                    int to = other;
                    int want = one == other ? OUTSIDE : fewest(shut, cut -> (with[cut][of] >> to & 1) == 0);
                    due("cuts(" + one + ", " + other + ") " + where, x.cuts(one, other), want);
                }
            }
        });
    }

    private static int shutPinsOf(Scene scene) {
        return pinsOf(scene.make()).shut();
    }

    static void p18_asPinsAreOpened() {
        sentence(18, "LETS GO of some DEEDS (bits): the fewest SHUT PINS (bits; of like ones the least) with which OPENED all of these can be done.");
        sentence(18, "LETS GO, as bits.");
        everywhere(40, (where, scene) -> {
            int shut = shutPinsOf(scene);
            int[] can = new int[128];
            for (int cut = 0; cut <= 127; cut++) {
                can[cut] = (cut & ~shut) == 0 ? opened(scene, cut).count(6) : 0;
            }
            SafetyPinsCounted x = scene.make();
            int past = 1 << x.count(3);
            for (int deeds = 0; deeds < past; deeds++) {
                int all = deeds;
                due("letsGo(" + deeds + ") " + where, x.letsGo(deeds), fewest(shut, cut -> (can[cut] & all) == all));
            }
            due("letsGo(" + past + ") " + where, x.letsGo(past), OUTSIDE);
        });
    }

    static void p18_deedsThatCanBeDone() {
        sentence(18, "DEEDS that can be done now: bits.");
        sentence(30, "6 DEEDS that can be done (bits)");
        String[] two = {"01", "14", "52"};
        String pins = "SN0120N1230N2320N3410N4550";
        Random dice = new Random(18);
        for (int open = 0; open <= 31; open++) {
            int cut = open;
            SafetyPinsCounted x = opened(() -> of(pins + "D01D14D52"), cut);
            int can = 0;
            for (int deed = 0; deed <= 2; deed++) {
                boolean isDone = !areTogether(x, two[deed].charAt(0) - '0', two[deed].charAt(1) - '0');
                can |= isDone ? 1 << deed : 0;
                due("judge(1, 50" + deed + "), open " + open, x.judge(1, 500 + deed), isDone ? NONE : 0);
                due("letsGo of deed " + deed + " is 0, open " + open, x.letsGo(1 << deed) == 0 ? 1 : 0, isDone ? 1 : 0);
            }
            due("count(6), open " + open, x.count(6), can);
            if (dice.nextBoolean()) {
                x.tug(3, 9);
                due("count(6), all apart", x.count(6), x.count(5) == 31 ? 7 : x.count(6));
            }
        }
    }

    // ---- promise 17

    static void p17_asOneTugs() {
        sentence(17, "PARTS of two THINGS: the least n (1 to 9; 0: they are not TOGETHER) by which, TUGGED at any one THING, they are "
            + "not TOGETHER; at which (the least; NONE); NONE.");
        sentence(17, "PARTS: how much (what = 0), at which (1); NONE.");
        everywhere(40, (where, scene) -> {
            int[][][] with = new int[10][6][6];
            for (int n = 1; n <= 9; n++) {
                for (int thing = 0; thing <= 5; thing++) {
                    SafetyPinsCounted y = scene.make();
                    y.tug(thing, n);
                    for (int of = 0; of <= 5; of++) {
                        with[n][thing][of] = y.with(of);
                    }
                }
            }
            SafetyPinsCounted x = scene.make();
            for (int one = 0; one <= 5; one++) {
                for (int other = 0; other < one; other++) {
                    parts(where, x, one, other, with);
                    parts(where, x, other, one, with);
                }
            }
        });
    }

    private static void parts(String where, SafetyPinsCounted x, int one, int other, int[][][] with) {
        int much = areTogether(x, one, other) ? NONE : 0;
        int at = NONE;
        for (int n = 9; n >= 1 && much != 0; n--) {
            for (int thing = 5; thing >= 0; thing--) {
                if ((with[n][thing][one] >> other & 1) == 0) {
                    much = n;
                    at = thing;
                }
            }
        }
        due("parts(" + one + ", " + other + ", 0) " + where, x.parts(one, other, 0), much);
        due("parts(" + one + ", " + other + ", 1) " + where, x.parts(one, other, 1), at);
    }

    // ---- promise 19

    /** One doing, done: whether it can be, or is so. */
    private static boolean isDone(SafetyPinsCounted x, int doing) {
        int second = doing / 10 % 10;
        int third = doing % 10;
        switch (doing / 100) {
            case 0: return second == 0 && third == 0 && x.day() >= 0;
            case 1: return x.tug(second, third) >= 0;
            case 2: return second == 0 && x.shut(third) >= 0;
            case 3: return second == 0 && x.open(third) >= 0;
            case 4: return second <= 5 && third <= 5 && areTogether(x, second, third);
            case 5: return second == 0 && third < x.count(3) && (x.count(6) >> third & 1) == 1;
            default: return false;
        }
    }

    static void p19_eachAsItIsDone() {
        sentence(19, "JUDGED: n doings (1 to 4), told as three figures each (the first one's are the highest of row)");
        everywhere(8, (where, scene) -> {
            for (int part = 0; part < 1000; part += 200) {
                SafetyPinsCounted x = scene.make();
                for (int doing = part; doing < part + 200; doing++) {
                    due("judge(1, " + doing + ") " + where, x.judge(1, doing), isDone(scene.make(), doing) ? NONE : 0);
                }
            }
        });
    }

    private static int doingByLot(Random dice) {
        int kind = dice.nextInt(24);
        if (kind == 0) {
            return dice.nextInt(1000);
        }
        int figure = dice.nextInt(7);
        switch (kind % 6) {
            case 0: return 0;
            case 1: return 100 + 10 * Math.min(5, figure) + 1 + dice.nextInt(5);
            case 2: return 200 + figure;
            case 3: return 300 + figure;
            case 4: return 400 + 10 * dice.nextInt(6) + dice.nextInt(6);
            default: return 500 + dice.nextInt(3);
        }
    }

    static void p19_oneAfterTheOther() {
        sentence(19, "JUDGED; NONE.");
        Random dice = new Random(19);
        everywhere(40, (where, scene) -> {
            SafetyPinsCounted x = scene.make();
            for (int i = 0; i < 60; i++) {
                int n = 1 + dice.nextInt(4);
                long row = 0;
                int want = NONE;
                SafetyPinsCounted y = scene.make();
                for (int place = 0; place < n; place++) {
                    int doing = doingByLot(dice);
                    row = 1000 * row + doing;
                    want = want == NONE && !isDone(y, doing) ? place : want;
                }
                due("judge(" + n + ", " + row + ") " + where, x.judge(n, row), want);
            }
        });
    }

    static void p19_whatIsNotSoEndsIt() {
        sentence(19, ": the place (from 0 on) of the first that can not be (or is not so); NONE: none.");
        SafetyPinsCounted x = of("SN0110D01");
        due("judge(3): not so, though it comes to be so", x.judge(3, 500300500), 0);
        due("judge(3): can't be, though it comes to be", x.judge(3, 200300200), 0);
        due("judge(3): the first of two", x.judge(3, 401500999), 1);
        due("judge(1): asked anew, nothing was done", x.judge(1, 401), NONE);
    }

    static void p19_handsAndTugsAsActs() {
        sentence(19, "1, a THING, n: TUGGED; 2, 0, a PIN: SHUT, that is OPEN; 3, 0, a PIN: OPENED, that is SHUT");
        SafetyPinsCounted x = of("SN1200N2300N0122W01");
        due("judge(2): opened, nothing else follows", x.judge(2, 300423), NONE);
        due("judge(2): a tug of 1, all that follows", x.judge(2, 121423), 1);
        due("judge(4): tugs, no wear", x.judge(4, 101101101401L), NONE);
        due("judge(4): days, that wear it", x.judge(4, 401), 3);
        x.day();
        x.day();
        due("judge(2): worn, a day", x.judge(2, 401), 1);
        due("judge(4): worn, opened, shut without wear, a day", x.judge(4, 302202000401L), NONE);
        due("count(9), two acts", x.count(9), 2);
    }
}
