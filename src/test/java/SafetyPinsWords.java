import java.util.ArrayList;
import java.util.List;
import java.util.Random;

/** What the tests of the words share: many scenes, and what the document says of the pins that an object tells. */
abstract class SafetyPinsWords extends SafetyPinsBench {
    static final int PLAIN = 0, BRASS = 1, RUSTY = 2, SPRUNG = 3;

    private static final Scene[] BY_HAND = {SafetyPinsBench::fresh, SafetyPinsBench::half, SafetyPinsBench::crowded,
        SafetyPinsBench::stirred};

    interface Look {
        void at(String where, Scene scene);
    }

    /** Pins as an object tells them: their ends, how much they hold, their kinds; and the pins that are open. */
    record Pins(int number, int[] one, int[] other, int[] holds, int[] kind, int open) {
        int shut() {
            return (1 << number) - 1 & ~open;
        }

        boolean isOpen(int pin) {
            return (open >> pin & 1) == 1;
        }

        int ends(int pin) {
            return 1 << one[pin] | 1 << other[pin];
        }

        /** Pings by these loads, that go on with them: the pins that are open behind it. */
        int pings(int openAtFirst, int[] loads) {
            int then = openAtFirst;
            int giving = giving(then, loads);
            while (giving != 0) {
                then |= giving;
                for (int pin = 0; pin < number; pin++) {
                    loads[one[pin]] += giving >> pin & 1;
                    loads[other[pin]] += giving >> pin & 1;
                }
                giving = giving(then, loads);
            }
            return then;
        }

        private int giving(int then, int[] loads) {
            int giving = 0;
            for (int pin = 0; pin < number; pin++) {
                boolean isMore = loads[one[pin]] + loads[other[pin]] > holds[pin];
                giving |= isMore && (then >> pin & 1) == 0 ? 1 << pin : 0;
            }
            return giving;
        }

        /** The things that are together with one while these pins are open. */
        int company(int thing, int openThen) {
            int known = 1 << thing;
            for (int step = 1; step <= 5; step++) {
                for (int pin = number - 1; pin >= 0; pin--) {
                    known |= (openThen >> pin & 1) == 0 && (known & ends(pin)) != 0 ? ends(pin) : 0;
                }
            }
            return known;
        }

        boolean areTogether(int a, int b, int openThen) {
            return (company(a, openThen) >> b & 1) == 1;
        }
    }

    static Pins pinsOf(SafetyPinsCounted x) {
        int number = x.count(1);
        int[][] told = new int[4][number];
        int[] whats = {0, 1, 4, 3};
        int open = 0;
        for (int pin = 0; pin < number; pin++) {
            for (int i = 0; i < 4; i++) {
                told[i][pin] = x.pin(pin, whats[i]);
            }
            open |= x.pin(pin, 6) << pin;
        }
        return new Pins(number, told[0], told[1], told[2], told[3], open);
    }

    static int[] wearOf(SafetyPinsCounted x) {
        int[] wear = new int[x.count(1)];
        for (int pin = 0; pin < wear.length; pin++) {
            wear[pin] = x.pin(pin, 5);
        }
        return wear;
    }

    static boolean areTogether(SafetyPinsCounted x, int one, int other) {
        return (x.with(one) >> other & 1) == 1;
    }

    /** A scene with these of its shut pins opened besides. */
    static SafetyPinsCounted opened(Scene scene, int pins) {
        SafetyPinsCounted x = scene.make();
        for (int pin = 0; pin < 7; pin++) {
            if ((pins >> pin & 1) == 1) {
                x.open(pin);
            }
        }
        return x;
    }

    // ---- scenes

    /** In the scenes by hand, and in so many towns by lot, each made alike whenever it is made. */
    static void everywhere(int byLot, Look look) {
        for (int i = 0; i < BY_HAND.length; i++) {
            look.at("in scene " + i, BY_HAND[i]);
        }
        for (int lot = 1; lot <= byLot; lot++) {
            int seed = lot;
            look.at("in the town of lot " + lot, () -> byLot(new Random(seed)));
        }
    }

    private static SafetyPinsCounted byLot(Random dice) {
        SafetyPinsCounted x = of(townByLot(dice));
        int pins = x.count(1);
        for (int acts = dice.nextInt(12); acts > 0; acts--) {
            actByLot(x, dice, dice.nextInt(pins == 0 ? 2 : 6), pins);
            if (dice.nextInt(5) == 0) {
                x.keep(dice.nextInt(2));
            }
        }
        for (int trials = dice.nextInt(4); trials > 0; trials--) {
            x.trial(dice.nextInt(13), dice.nextInt(2));
        }
        x.seed(dice.nextLong());
        return x;
    }

    private static void actByLot(SafetyPinsCounted x, Random dice, int act, int pins) {
        if (act <= 1) {
            x.day();
        } else if (act == 2) {
            x.tug(dice.nextInt(6), 1 + dice.nextInt(5));
        } else if (act == 3) {
            x.open(dice.nextInt(pins));
        } else {
            x.shut(dice.nextInt(pins));
        }
    }

    static String townByLot(Random dice) {
        StringBuilder town = new StringBuilder("S");
        int things = 3 + dice.nextInt(4);
        int strengths = dice.nextBoolean() ? 4 : 10;
        for (int pins = dice.nextInt(8); pins > 0; pins--) {
            town.append('N').append(twoByLot(dice, things)).append(dice.nextInt(strengths)).append(dice.nextInt(4));
        }
        for (int pulls = dice.nextInt(5); pulls > 0; pulls--) {
            town.append('W').append(dice.nextInt(things)).append(dice.nextInt(6));
        }
        for (int deeds = dice.nextInt(4); deeds > 0; deeds--) {
            town.append('D').append(twoByLot(dice, things));
        }
        return town.toString();
    }

    private static String twoByLot(Random dice, int things) {
        int one = dice.nextInt(things);
        return "" + one + (one + 1 + dice.nextInt(things - 1)) % things;
    }
}
