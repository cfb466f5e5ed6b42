/**
 * A SafetyPins whose calls are counted: the document promises 512 calls after it has been made, so a test that makes
 * more would stand on nothing.
 */
final class SafetyPinsCounted {
    static final int MOST_CALLS = 512;

    private final SafetyPins pins = new SafetyPins();
    private int calls = 0;

    int calls() {
        return calls;
    }

    private SafetyPins counted() {
        calls++;
        if (calls > MOST_CALLS) {
            throw new IllegalStateException("a test calls an object more than " + MOST_CALLS + " times");
        }
        return pins;
    }

    /** Wipes the text and writes this one. */
    SafetyPinsCounted tell(String text) {
        wipe();
        for (int i = 0; i < text.length(); i++) {
            write(text.charAt(i));
        }
        return this;
    }

    int write(int letter) {
        return counted().write(letter);
    }

    int wipe() {
        return counted().wipe();
    }

    int fault() {
        return counted().fault();
    }

    int town() {
        return counted().town();
    }

    int pin(int pin, int what) {
        return counted().pin(pin, what);
    }

    int with(int thing) {
        return counted().with(thing);
    }

    int day() {
        return counted().day();
    }

    int tug(int thing, int n) {
        return counted().tug(thing, n);
    }

    int shut(int pin) {
        return counted().shut(pin);
    }

    int open(int pin) {
        return counted().open(pin);
    }

    int undo() {
        return counted().undo();
    }

    int later(int n) {
        return counted().later(n);
    }

    int lasts(int pin) {
        return counted().lasts(pin);
    }

    int chain(int pin) {
        return counted().chain(pin);
    }

    int cuts(int one, int other) {
        return counted().cuts(one, other);
    }

    int parts(int one, int other, int what) {
        return counted().parts(one, other, what);
    }

    int letsGo(int deeds) {
        return counted().letsGo(deeds);
    }

    int judge(int n, long row) {
        return counted().judge(n, row);
    }

    int trial(int p, int gave) {
        return counted().trial(p, gave);
    }

    int untry() {
        return counted().untry();
    }

    int which(int what) {
        return counted().which(what);
    }

    int share(int pin, boolean upper) {
        return counted().share(pin, upper);
    }

    int rests(int one, int other, int what) {
        return counted().rests(one, other, what);
    }

    int gives(int one, int other, int x, boolean upper) {
        return counted().gives(one, other, x, upper);
    }

    long seed(long v) {
        return counted().seed(v);
    }

    int seasons(int m) {
        return counted().seasons(m);
    }

    int keep(int slot) {
        return counted().keep(slot);
    }

    int again(int slot) {
        return counted().again(slot);
    }

    int count(int what) {
        return counted().count(what);
    }
}
