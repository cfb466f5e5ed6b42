import java.util.Random;

/** Runs of calls drawn from fixed seeds: the program and the model must answer alike, call by call. */
public final class SafetyPinsAgainstModel {
    private static final int RUNS = 700;
    private static final int CALLS = 512;

    private final Random dice;
    private final SafetyPins real = new SafetyPins();
    private final SafetyPinsModel model = new SafetyPinsModel();
    private final StringBuilder told = new StringBuilder();
    private int calls = 0;
    private boolean same = true;

    private SafetyPinsAgainstModel(long seed) {
        dice = new Random(seed);
    }

    public static void main(String[] args) {
        int wrong = 0;
        for (int run = 1; run <= RUNS && wrong < 5; run++) {
            if (!new SafetyPinsAgainstModel(run).agrees(run)) {
                wrong++;
            }
        }
        System.out.println(wrong == 0 ? "the model answers alike" : wrong + " runs differ from the model");
        if (wrong != 0) {
            System.exit(1);
        }
    }

    /** In every third run one town lasts to the last call, so that what has to grow for long can grow. */
    private boolean agrees(int run) {
        boolean lasts = run % 3 == 0;
        tell(randomTown());
        while (calls < CALLS && same) {
            if (lasts ? real.count(1) == 0 : dice.nextInt(90) == 0) {
                tell(randomTown());
            } else {
                oneCall(dice.nextInt(34));
            }
        }
        if (!same) {
            System.out.println("run " + run + ":" + told);
        }
        return same;
    }

    private void due(String call, long got, long want) {
        calls++;
        told.append(' ').append(call);
        if (got != want) {
            same = false;
            told.append(" answered ").append(got).append(", the model ").append(want);
        }
    }

    private int upTo(int most) {
        return dice.nextInt(most + 1);
    }

    /** Mostly from least to most, now and then just outside or far away. */
    private int near(int least, int most) {
        int lot = dice.nextInt(40);
        if (lot == 0) return least - 1;
        if (lot == 1) return most + 1;
        if (lot == 2) return dice.nextBoolean() ? Integer.MIN_VALUE : Integer.MAX_VALUE;
        return least + dice.nextInt(Math.max(1, most - least + 1));
    }

    private int somePin() {
        return near(0, Math.max(0, real.count(1) - 1));
    }

    private String two() {
        int x = upTo(5);
        return "" + x + (x + 1 + upTo(4)) % 6;
    }

    private String randomTown() {
        StringBuilder text = new StringBuilder("S");
        int mostStrength = dice.nextBoolean() ? 9 : 3;
        int things = 2 + upTo(4);
        for (int i = upTo(8); i > 0; i--) {
            int a = dice.nextInt(things);
            int b = (a + 1 + dice.nextInt(things - 1)) % things;
            text.append('N').append(a).append(b).append(upTo(mostStrength)).append(upTo(3));
        }
        for (int i = upTo(4); i > 0; i--) {
            text.append('W').append(upTo(things - 1)).append(upTo(9));
        }
        for (int i = upTo(3); i > 0; i--) {
            text.append('D').append(two());
        }
        if (dice.nextInt(6) == 0) {
            text.setCharAt(dice.nextInt(text.length()), "SNWDnwd0123456789:/ ".charAt(dice.nextInt(20)));
        }
        if (dice.nextInt(8) == 0) {
            text.setLength(1 + dice.nextInt(text.length()));
        }
        return text.toString();
    }

    private void tell(String text) {
        due("wipe()", real.wipe(), model.wipe());
        for (int i = 0; i < text.length() && same; i++) {
            char letter = text.charAt(i);
            due("write('" + letter + "')", real.write(letter), model.write(letter));
            if (dice.nextInt(8) == 0) {
                due("fault()", real.fault(), model.fault());
            }
        }
        due("fault()", real.fault(), model.fault());
        due("town()", real.town(), model.town());
    }

    private void oneCall(int kind) {
        if (kind <= 9) {
            act(kind);
        } else if (kind <= 18) {
            lookAhead(kind);
        } else if (kind <= 29) {
            reckon(kind);
        } else {
            int what = near(0, 10);
            due("count(" + what + ")", real.count(what), model.count(what));
        }
    }

    private void act(int kind) {
        int pin = somePin();
        int thing = near(0, 5);
        int n = near(1, 9);
        switch (kind) {
            case 0 -> due("day()", real.day(), model.day());
            case 1 -> due("day()", real.day(), model.day());
            case 2, 3 -> due("tug(" + thing + ", " + n + ")", real.tug(thing, n), model.tug(thing, n));
            case 4, 5 -> due("shut(" + pin + ")", real.shut(pin), model.shut(pin));
            case 6 -> due("open(" + pin + ")", real.open(pin), model.open(pin));
            case 7 -> due("undo()", real.undo(), model.undo());
            case 8 -> {
                int slot = near(0, 1);
                due("keep(" + slot + ")", real.keep(slot), model.keep(slot));
            }
            default -> {
                int slot = near(0, 1);
                if (dice.nextInt(3) == 0) due("again(" + slot + ")", real.again(slot), model.again(slot));
            }
        }
    }

    private long someRow(int n) {
        if (dice.nextInt(30) == 0) return dice.nextLong();
        if (dice.nextInt(30) == 0) return Math.round(Math.pow(10, 3 * Math.max(1, Math.min(4, n)))) - upTo(1);
        StringBuilder row = new StringBuilder();
        for (int i = 0; i < n && i < 5; i++) {
            row.append(someDoing());
        }
        return row.length() == 0 ? 0 : Long.parseLong(row.toString());
    }

    private String someDoing() {
        int kind = upTo(5);
        if (dice.nextInt(25) == 0) return "" + upTo(9) + upTo(9) + upTo(9);
        if (kind == 0) return "000";
        if (kind == 1) return "1" + upTo(5) + upTo(9);
        if (kind == 4) return "4" + upTo(5) + upTo(5);
        return kind + "0" + upTo(kind == 5 ? 3 : 7);
    }

    private void lookAhead(int kind) {
        int pin = somePin();
        int one = near(0, 5);
        int other = near(0, 5);
        int what = near(0, 1);
        switch (kind) {
            case 10 -> {
                int n = near(0, 20);
                due("later(" + n + ")", real.later(n), model.later(n));
            }
            case 11 -> due("lasts(" + pin + ")", real.lasts(pin), model.lasts(pin));
            case 12 -> due("chain(" + pin + ")", real.chain(pin), model.chain(pin));
            case 13 -> due("cuts(" + one + ", " + other + ")", real.cuts(one, other), model.cuts(one, other));
            case 14, 15 -> due("parts(" + one + ", " + other + ", " + what + ")",
                real.parts(one, other, what), model.parts(one, other, what));
            case 16 -> {
                int deeds = near(0, (1 << real.count(3)) - 1);
                due("letsGo(" + deeds + ")", real.letsGo(deeds), model.letsGo(deeds));
            }
            default -> {
                int n = near(1, 4);
                long row = someRow(n);
                due("judge(" + n + ", " + row + ")", real.judge(n, row), model.judge(n, row));
            }
        }
    }

    private void reckon(int kind) {
        int pin = somePin();
        int one = near(0, 5);
        int other = near(0, 5);
        int what = near(0, 1);
        boolean upper = dice.nextBoolean();
        switch (kind) {
            case 19 -> {
                int p = near(0, 12);
                int gave = p > 6 ? near(0, 1) : near(0, 0);
                due("trial(" + p + ", " + gave + ")", real.trial(p, gave), model.trial(p, gave));
            }
            case 20 -> {
                if (dice.nextInt(4) == 0) due("untry()", real.untry(), model.untry());
            }
            case 21 -> due("which(" + what + ")", real.which(what), model.which(what));
            case 22 -> due("share(" + pin + ", " + upper + ")", real.share(pin, upper), model.share(pin, upper));
            case 23, 24 -> due("rests(" + one + ", " + other + ", " + what + ")",
                real.rests(one, other, what), model.rests(one, other, what));
            case 25 -> {
                int x = near(0, 10);
                due("gives(" + one + ", " + other + ", " + x + ", " + upper + ")",
                    real.gives(one, other, x, upper), model.gives(one, other, x, upper));
            }
            case 26 -> {
                long v = dice.nextLong();
                due("seed(" + v + ")", real.seed(v), model.seed(v));
            }
            case 27 -> {
                int m = near(1, 30);
                due("seasons(" + m + ")", real.seasons(m), model.seasons(m));
            }
            default -> {
                int about = near(0, 6);
                due("pin(" + pin + ", " + about + ")", real.pin(pin, about), model.pin(pin, about));
                due("with(" + one + ")", real.with(one), model.with(one));
            }
        }
    }
}
