/** Promise by promise: ordinary inputs, the edges that the document names, wrong inputs; all reckoned by hand. */
public final class SafetyPinsPromises {
    private static final int UNKNOWN = -1, OUTSIDE = -2, STATE = -3, FULL = -4, NONE = -9;

    private static int wrong = 0;
    private static int promise = 0;

    private static void due(String call, long got, long want) {
        if (got != want) {
            wrong++;
            System.out.println("promise " + promise + ": " + call + " answered " + got + ", due is " + want);
        }
    }

    private static void tell(SafetyPins x, String text) {
        x.wipe();
        for (int i = 0; i < text.length(); i++) {
            x.write(text.charAt(i));
        }
    }

    private static SafetyPins of(String text) {
        SafetyPins x = new SafetyPins();
        tell(x, text);
        if (x.town() < 0) {
            wrong++;
            System.out.println("promise " + promise + ": no town is " + text);
        }
        return x;
    }

    /** All that can be asked without change, as one text: to see that nothing changed. */
    private static String state(SafetyPins x) {
        StringBuilder all = new StringBuilder();
        for (int what = 0; what <= 10; what++) {
            all.append(x.count(what)).append(' ');
        }
        for (int pin = 0; pin < x.count(1); pin++) {
            for (int what = 0; what <= 6; what++) {
                all.append(x.pin(pin, what)).append(' ');
            }
        }
        return all.append(x.later(1)).append(' ').append(x.which(0)).toString();
    }

    private static void unchanged(String call, String before, SafetyPins x) {
        if (!before.equals(state(x))) {
            wrong++;
            System.out.println("promise " + promise + ": " + call + " changed " + before + " to " + state(x));
        }
    }

    private static void days(SafetyPins x, int n) {
        for (int i = 0; i < n; i++) {
            x.day();
        }
    }

    public static void main(String[] args) {
        promise1();
        promise2();
        promise3();
        promise4();
        promise5();
        promise6();
        promise7();
        promise8();
        promise9();
        promise10();
        promise11();
        promise12();
        promise13();
        promise14();
        promise15();
        promise16();
        promise17();
        promise18();
        promise19();
        promise20();
        promise21();
        promise22();
        promise23();
        promise24();
        promise25();
        promise26();
        promise27();
        promise28();
        promise29();
        promise30();
        System.out.println(wrong == 0 ? "all promises hold" : wrong + " answers are not as due");
        if (wrong != 0) {
            System.exit(1);
        }
    }

    private static void promise1() {
        promise = 1;
        SafetyPins x = new SafetyPins();
        for (int what = 0; what <= 10; what++) {
            due("count(" + what + ")", x.count(what), 0);
        }
        due("pin(0, 0)", x.pin(0, 0), UNKNOWN);
        due("fault()", x.fault(), 0);
        due("town()", x.town(), STATE);
        due("with(5)", x.with(5), 32);
        due("later(20)", x.later(20), 0);
        due("undo()", x.undo(), STATE);
        due("again(0)", x.again(0), STATE);
        due("again(1)", x.again(1), STATE);
        due("which(0)", x.which(0), 20);
        due("seed(7)", x.seed(7), 0);
        due("UNKNOWN", SafetyPins.UNKNOWN, UNKNOWN);
        due("OUTSIDE", SafetyPins.OUTSIDE, OUTSIDE);
        due("STATE", SafetyPins.STATE, STATE);
        due("FULL", SafetyPins.FULL, FULL);
        due("NONE", SafetyPins.NONE, NONE);
    }

    private static void promise2() {
        promise = 2;
        SafetyPins x = new SafetyPins();
        due("write(-1)", x.write(-1), OUTSIDE);
        due("write(256)", x.write(256), OUTSIDE);
        due("write(least)", x.write(Integer.MIN_VALUE), OUTSIDE);
        due("write(most)", x.write(Integer.MAX_VALUE), OUTSIDE);
        due("count(0)", x.count(0), 0);
        due("write(0)", x.write(0), 1);
        due("write(255)", x.write(255), 2);
        for (int i = 3; i <= 60; i++) {
            due("write(48)", x.write(48), i);
        }
        due("write(48), full", x.write(48), FULL);
        due("write(256), full", x.write(256), OUTSIDE);
        due("count(0)", x.count(0), 60);
    }

    private static void promise3() {
        promise = 3;
        SafetyPins x = of("SN0110");
        due("wipe()", x.wipe(), 6);
        due("count(0)", x.count(0), 0);
        due("wipe(), empty", x.wipe(), 0);
        due("count(1), the town stays", x.count(1), 1);
        for (int i = 0; i < 60; i++) {
            x.write('S');
        }
        due("wipe(), full", x.wipe(), 60);
        due("write(83)", x.write('S'), 1);
        due("fault(), nothing old is left", x.fault(), NONE);
    }

    private static void fault(String text, int want) {
        SafetyPins x = new SafetyPins();
        tell(x, text);
        due("fault() of " + text, x.fault(), want);
        due("town() of " + text, x.town() == STATE ? 1 : 0, want == NONE ? 0 : 1);
    }

    private static void promise4() {
        promise = 4;
        fault("", 0);
        fault("s", 0);
        fault("N0110", 0);
        fault("S", NONE);
        fault("SS", 1);
        fault("Sn", 1);
        fault("SX", 1);
        fault("S0", 1);
        fault("SN", 2);
        fault("SN0", 3);
        fault("SN01", 4);
        fault("SN019", 5);
        fault("SN0193", NONE);
        fault("SN6", 2);
        fault("SN/", 2);
        fault("SN:", 2);
        fault("SN5", 3);
        fault("SN55", 3);
        fault("SN56", 3);
        fault("SN50", 4);
        fault("SN01:", 4);
        fault("SN01/", 4);
        fault("SN0194", 5);
        fault("SN019/", 5);
        fault("SN0193N", 7);
        fault("SN01930", 6);
        fault("SW", 2);
        fault("SW6", 2);
        fault("SW5", 3);
        fault("SW59", NONE);
        fault("SW55", NONE);
        fault("SW5:", 3);
        fault("SW5/", 3);
        fault("SW5900", 4);
        fault("SD", 2);
        fault("SD6", 2);
        fault("SD0", 3);
        fault("SD00", 3);
        fault("SD06", 3);
        fault("SD05", NONE);
        fault("SD05x", 4);
        fault("SD05N1020W00", NONE);
        fault("SD05 ", 4);
        String pins = "SN0110N0110N0110N0110N0110N0110N0110";
        fault(pins, NONE);
        fault(pins + "N", 36);
        fault(pins + "N01", 36);
        String pulls = "SW00W00W00W00";
        fault(pulls, NONE);
        fault(pulls + "W", 13);
        fault(pulls + "D01N0110", NONE);
        fault("SD01D01D01", NONE);
        fault("SD01D01D01D", 10);
        String full = pins + pulls.substring(1) + "D01D01D01";
        fault(full, NONE);
        fault(full + "W", 57);
        fault(full + "000", 57);
        fault("SN01x0N00", 4);
    }

    private static void promise5() {
        promise = 5;
        SafetyPins x = new SafetyPins();
        tell(x, "SN0112N1230W03W14D01D02D03");
        due("town()", x.town(), 223);
        due("count(0), the text stays", x.count(0), 26);
        due("town() once more", x.town(), 223);
        x.seed(5);
        x.trial(4, 1);
        days(x, 3);
        x.open(0);
        x.keep(0);
        x.keep(1);
        tell(x, "SN0112N1230W03W14D01D02D03N");
        String before = state(x);
        due("town() with a fault", x.town(), STATE);
        unchanged("town()", before, x);
        due("again(0), kept yet", x.again(0), 3);
        days(x, 1);
        tell(x, "SN2351");
        due("town() of one pin", x.town(), 100);
        due("pin(0, 0)", x.pin(0, 0), 2);
        due("pin(1, 0)", x.pin(1, 0), UNKNOWN);
        due("count(9)", x.count(9), 0);
        due("count(4)", x.count(4), 0);
        due("count(5)", x.count(5), 0);
        due("again(0)", x.again(0), STATE);
        due("again(1)", x.again(1), STATE);
        due("count(10)", x.count(10), 1);
        due("seed(0)", x.seed(0), 5);
        SafetyPins y = of("SN0152W01");
        days(y, 3);
        due("pin(0, 5)", y.pin(0, 5), 3);
        due("town() anew", y.town(), 110);
        due("pin(0, 5) anew", y.pin(0, 5), 0);
        due("town() of no part", of("S").town(), 0);
        due("town() of all", of("SN0110N0110N0110N0110N0110N0110N0110W00W00W00W00D01D01D01").town(), 743);
    }

    private static void promise6() {
        promise = 6;
        SafetyPins x = of("SN0150N1251N2352N3453W25W25");
        int[][] want = {{0, 1, 5, 0, 5, 0, 0}, {1, 2, 5, 1, 8, 0, 0}, {2, 3, 5, 2, 5, 0, 0}, {3, 4, 5, 3, 5, 0, 0}};
        for (int pin = 0; pin < 4; pin++) {
            for (int what = 0; what < 7; what++) {
                due("pin(" + pin + ", " + what + ")", x.pin(pin, what), want[pin][what]);
            }
        }
        due("pin(4, 0)", x.pin(4, 0), UNKNOWN);
        due("pin(-1, 0)", x.pin(-1, 0), UNKNOWN);
        due("pin(4, 7)", x.pin(4, 7), UNKNOWN);
        due("pin(0, 7)", x.pin(0, 7), OUTSIDE);
        due("pin(0, -1)", x.pin(0, -1), OUTSIDE);
        x.day();
        due("pin(2, 4), worn", x.pin(2, 4), 4);
        due("pin(2, 5), worn", x.pin(2, 5), 1);
        due("pin(2, 6)", x.pin(2, 6), 0);
        x.day();
        due("pin(2, 6), that gave", x.pin(2, 6), 1);
        due("pin(2, 5), that gave", x.pin(2, 5), 1);
        SafetyPins y = of("SN0112W01N0192");
        days(y, 1);
        due("pin(0, 4)", y.pin(0, 4), 0);
        y.day();
        y.shut(0);
        due("pin(0, 4), shut anew", y.pin(0, 4), 1);
        SafetyPins z = of("SN0102W00N1290W10");
        z.tug(2, 9);
        z.day();
        due("pin(0, 4), never below 0", z.pin(0, 4), 0);
        SafetyPins v = of("SN0112W01");
        v.day();
        v.open(0);
        due("pin(0, 5), opened keeps it", v.pin(0, 5), 1);
        due("pin(0, 4), opened too", v.pin(0, 4), 0);
    }

    private static void promise7() {
        promise = 7;
        SafetyPins x = of("SN2350N1250N4550");
        due("with(0)", x.with(0), 1);
        due("with(1)", x.with(1), 14);
        due("with(3)", x.with(3), 14);
        due("with(5)", x.with(5), 48);
        due("with(6)", x.with(6), UNKNOWN);
        due("with(-1)", x.with(-1), UNKNOWN);
        x.open(1);
        due("with(1), opened", x.with(1), 2);
        due("with(3), opened", x.with(3), 12);
        SafetyPins line = of("SN4510N3410N2310N1210N0110");
        due("with(0) of a line", line.with(0), 63);
        due("with(5) of a line", line.with(5), 63);
    }

    private static void promise8() {
        promise = 8;
        SafetyPins x = of("SN0130N1230N2340W04W13W20");
        due("day() 1: 0-1 gives, 1-2 holds", x.day(), 1);
        due("count(5)", x.count(5), 1);
        due("day() 2: 1-2 holds as much", x.day(), 0);
        due("day() 3", x.day(), 0);
        due("day() 4, the first pull again", x.day(), 0);
        due("count(4)", x.count(4), 4);
        due("count(9)", x.count(9), 4);
        SafetyPins row = of("SN0100N1200N2300W01");
        due("day(), one behind the other", row.day(), 3);
        SafetyPins sprung = of("SN0123W03W00");
        due("day(), sprung gives", sprung.day(), 1);
        due("count(5)", sprung.count(5), 1);
        due("day(), sprung shut again", sprung.day(), 0);
        due("count(5)", sprung.count(5), 0);
        SafetyPins again = of("SN0123W03");
        again.open(0);
        due("day(), opened, shut, gives", again.day(), 1);
        due("day(), it gives anew", again.day(), 1);
        SafetyPins rusty = of("SN0132W02W10");
        due("day() rusty", rusty.day(), 0);
        due("wear by a load", rusty.count(8), 1);
        rusty.day();
        due("no wear without", rusty.count(8), 1);
        rusty.day();
        due("wear 2, holds 2 at 2", rusty.count(8), 2);
        rusty.day();
        due("day(), it gives", rusty.day(), 1);
        due("no wear as it gives", rusty.count(8), 2);
        SafetyPins behind = of("SN0100N1292W01");
        due("day(), a pin gives beside", behind.day(), 1);
        due("wear by loads of pings", behind.pin(1, 5), 1);
        SafetyPins plain = of("SN0190N0191N0193W01");
        plain.day();
        due("only rusty ones wear", plain.count(8), 0);
        SafetyPins seven = of("SN0192N0192N0192N0192N0192N0153N0193W06");
        due("day() of seven pins", seven.day(), 1);
        due("wear of five", seven.count(8), 5);
        SafetyPins none = of("SN0100");
        due("day() of no pull", none.day(), 0);
        due("count(4)", none.count(4), 1);
    }

    private static void promise9() {
        promise = 9;
        SafetyPins x = of("SN0130N1201N2343W01");
        due("tug(0, 3)", x.tug(0, 3), 0);
        due("tug(3, 4)", x.tug(3, 4), 0);
        due("tug(1, 4), brass holds 3, plain 3", x.tug(1, 4), 2);
        due("count(5)", x.count(5), 3);
        due("count(4), no day", x.count(4), 0);
        due("count(9)", x.count(9), 3);
        due("tug(3, 9)", x.tug(3, 9), 1);
        due("tug(3, 9), none left", x.tug(3, 9), 0);
        due("tug(5, 1) of the least", of("SN4500").tug(5, 1), 1);
        due("count(5), sprung stays open", x.count(5), 7);
        due("count(9), an act that moved nothing", x.count(9), 5);
        String before = state(x);
        due("tug(6, 0)", x.tug(6, 0), UNKNOWN);
        due("tug(-1, 1)", x.tug(-1, 1), UNKNOWN);
        due("tug(0, 0)", x.tug(0, 0), OUTSIDE);
        due("tug(0, 10)", x.tug(0, 10), OUTSIDE);
        due("tug(0, -1)", x.tug(0, -1), OUTSIDE);
        unchanged("tug", before, x);
        SafetyPins rusty = of("SN0192");
        rusty.tug(0, 9);
        due("no wear by a tug", rusty.count(8), 0);
        SafetyPins brass = of("SN0101");
        due("tug(0, 3), brass", brass.tug(0, 3), 0);
        due("tug(0, 4), brass", brass.tug(0, 4), 1);
        SafetyPins row = of("SN0120N1200N2310N3420");
        due("tug(0, 3): 0-1, then 1-2, then 2-3 holds", row.tug(0, 3), 2);
        SafetyPins twice = of("SN0110N0110N1240");
        due("tug(1, 2), load 4 is not more than 4", twice.tug(1, 2), 2);
        SafetyPins more = of("SN0110N0110N1230");
        due("tug(1, 2), load 4 is more than 3", more.tug(1, 2), 3);
    }

    private static void promise10() {
        promise = 10;
        SafetyPins x = of("SN0112N1230W01");
        x.open(1);
        days(x, 3);
        due("count(5)", x.count(5), 3);
        due("pin(0, 5)", x.pin(0, 5), 1);
        due("shut(0)", x.shut(0), 1);
        due("pin(0, 5), no wear", x.pin(0, 5), 0);
        due("count(9)", x.count(9), 5);
        String before = state(x);
        due("shut(0), that is shut", x.shut(0), STATE);
        due("shut(2)", x.shut(2), UNKNOWN);
        due("shut(-1)", x.shut(-1), UNKNOWN);
        unchanged("shut", before, x);
        due("shut(1)", x.shut(1), 0);
        due("count(5)", x.count(5), 0);
    }

    private static void promise11() {
        promise = 11;
        SafetyPins x = of("SN0110N1200N2300");
        due("open(1)", x.open(1), 1);
        due("count(5), nothing follows", x.count(5), 2);
        due("open(0)", x.open(0), 2);
        due("count(9)", x.count(9), 2);
        String before = state(x);
        due("open(0), that is open", x.open(0), STATE);
        due("open(3)", x.open(3), UNKNOWN);
        due("open(-1)", x.open(-1), UNKNOWN);
        unchanged("open", before, x);
        due("open(2)", x.open(2), 3);
    }

    private static void promise12() {
        promise = 12;
        SafetyPins x = of("SN0112N1230N2303W01");
        due("undo(), none", x.undo(), STATE);
        x.day();
        x.day();
        x.tug(2, 4);
        x.shut(0);
        x.open(0);
        due("count(5)", x.count(5), 7);
        due("undo() opened", x.undo(), 4);
        due("count(5)", x.count(5), 6);
        due("pin(0, 5)", x.pin(0, 5), 0);
        due("undo() shut", x.undo(), 3);
        due("pin(0, 5), worn again", x.pin(0, 5), 1);
        due("count(5)", x.count(5), 7);
        due("undo() tugged", x.undo(), 2);
        due("count(5)", x.count(5), 1);
        due("undo() a day", x.undo(), 1);
        due("count(4)", x.count(4), 1);
        due("count(5)", x.count(5), 0);
        due("undo() the first", x.undo(), 0);
        due("count(8)", x.count(8), 0);
        due("undo(), none left", x.undo(), STATE);
        days(x, 20);
        due("count(9), 14 at most", x.count(9), 14);
        for (int left = 13; left >= 0; left--) {
            due("undo()", x.undo(), left);
            due("count(4)", x.count(4), 6 + left);
        }
        due("undo(), the first are forgotten", x.undo(), STATE);
        due("count(4)", x.count(4), 6);
        x.day();
        x.seed(9);
        x.undo();
        due("seed(0), the seed is no act", x.seed(0), 9);
        x.day();
        x.town();
        due("undo(), a town anew", x.undo(), STATE);
    }

    private static void promise13() {
        promise = 13;
        SafetyPins x = of("SN0122N2323W01W31W23");
        String before = state(x);
        due("later(0)", x.later(0), 0);
        due("later(1)", x.later(1), 0);
        due("later(2)", x.later(2), 0);
        due("later(3), the sprung one gives", x.later(3), 2);
        due("later(4), it is shut again", x.later(4), 0);
        due("later(7), the rusty one gives", x.later(7), 1);
        due("later(9)", x.later(9), 3);
        due("later(20)", x.later(20), 1);
        due("later(21)", x.later(21), OUTSIDE);
        due("later(-1)", x.later(-1), OUTSIDE);
        unchanged("later", before, x);
        x.open(1);
        due("later(0), what is open", x.later(0), 2);
        due("later(1), the sprung one", x.later(1), 0);
        x.undo();
        x.day();
        x.day();
        due("later(1) from the third day", x.later(1), 2);
    }

    private static void promise14() {
        promise = 14;
        SafetyPins x = of("SN0122N2320N4593W01W23");
        String before = state(x);
        due("lasts(0): days 1, 3, 5", x.lasts(0), 5);
        due("lasts(1): the second day", x.lasts(1), 2);
        due("lasts(2)", x.lasts(2), NONE);
        due("lasts(3)", x.lasts(3), UNKNOWN);
        due("lasts(-1)", x.lasts(-1), UNKNOWN);
        unchanged("lasts", before, x);
        x.open(0);
        due("lasts(0), that is open", x.lasts(0), STATE);
        due("lasts(0), first day", of("SN0100W01").lasts(0), 1);
        SafetyPins edge = of("SN0152W01W30W30W30");
        due("lasts(0), day 21 is too late", edge.lasts(0), NONE);
        edge.day();
        due("lasts(0), on day 20", edge.lasts(0), 20);
        due("lasts(0) of sprung", of("SN0123W00W00W03").lasts(0), 3);
    }

    private static void promise15() {
        promise = 15;
        SafetyPins x = of("SN0130N1200N2300N4500");
        String before = state(x);
        due("chain(0)", x.chain(0), 7);
        due("chain(3), alone", x.chain(3), 8);
        due("chain(4)", x.chain(4), UNKNOWN);
        due("chain(-1)", x.chain(-1), UNKNOWN);
        unchanged("chain", before, x);
        x.open(2);
        due("chain(0), not what was open", x.chain(0), 3);
        due("chain(2), that is open", x.chain(2), STATE);
        SafetyPins y = of("SN0190N0110N1210N2310");
        due("chain(0): 2 at like ends, then 2 at 1, then 1", y.chain(0), 7);
        due("chain(3): 1 is not more than 1", y.chain(3), 8);
        SafetyPins z = of("SN0190N0120N1210");
        due("chain(0): 2 is not more than 2", z.chain(0), 1);
        SafetyPins worn = of("SN0190N1222W11");
        days(worn, 2);
        due("chain(0), a worn one gives", worn.chain(0), 3);
    }

    private static void promise16() {
        promise = 16;
        SafetyPins x = of("SN0110N0210N2110N2310");
        String before = state(x);
        due("cuts(0, 1), the least of like ones", x.cuts(0, 1), 3);
        due("cuts(1, 0)", x.cuts(1, 0), 3);
        due("cuts(0, 3), one is fewer", x.cuts(0, 3), 8);
        due("cuts(0, 4), not together", x.cuts(0, 4), 0);
        due("cuts(0, 6)", x.cuts(0, 6), UNKNOWN);
        due("cuts(6, 6)", x.cuts(6, 6), UNKNOWN);
        due("cuts(-1, 0)", x.cuts(-1, 0), UNKNOWN);
        due("cuts(5, 5)", x.cuts(5, 5), OUTSIDE);
        unchanged("cuts", before, x);
        x.open(0);
        due("cuts(0, 1), only shut ones", x.cuts(0, 1), 2);
        x.open(1);
        due("cuts(0, 1), apart", x.cuts(0, 1), 0);
        due("cuts(0, 1) of seven",
            of("SN0110N0110N0110N0110N0110N0110N0110").cuts(0, 1), 127);
        due("cuts(0, 1), fewer than the least", of("SN0210N0210N2110").cuts(0, 1), 4);
    }

    private static void promise17() {
        promise = 17;
        SafetyPins x = of("SN0150N1220N2381");
        String before = state(x);
        due("parts(0, 1, 0), with what 1-2 brings", x.parts(0, 1, 0), 5);
        due("parts(0, 1, 1)", x.parts(0, 1, 1), 1);
        due("parts(1, 2, 0)", x.parts(1, 2, 0), 3);
        due("parts(1, 2, 1), the least", x.parts(1, 2, 1), 1);
        due("parts(0, 2, 0)", x.parts(0, 2, 0), 3);
        due("parts(2, 3, 0)", x.parts(2, 3, 0), NONE);
        due("parts(2, 3, 1)", x.parts(2, 3, 1), NONE);
        due("parts(0, 4, 0), not together", x.parts(0, 4, 0), 0);
        due("parts(0, 4, 1), not together", x.parts(0, 4, 1), NONE);
        due("parts(0, 6, 0)", x.parts(0, 6, 0), UNKNOWN);
        due("parts(-1, 0, 0)", x.parts(-1, 0, 0), UNKNOWN);
        due("parts(6, 6, 2)", x.parts(6, 6, 2), UNKNOWN);
        due("parts(1, 1, 0)", x.parts(1, 1, 0), OUTSIDE);
        due("parts(0, 1, 2)", x.parts(0, 1, 2), OUTSIDE);
        due("parts(0, 4, 2)", x.parts(0, 4, 2), OUTSIDE);
        due("parts(0, 1, -1)", x.parts(0, 1, -1), OUTSIDE);
        unchanged("parts", before, x);
        SafetyPins far = of("SN0180N0110N2320N3480N4580");
        due("parts(0, 1, 0), both pins", far.parts(0, 1, 0), 7);
        due("parts(2, 5, 1)", far.parts(2, 5, 1), 2);
        due("parts(0, 1, 0) by 9", of("SN0180").parts(0, 1, 0), 9);
        due("parts(0, 1, 0), 9 holds", of("SN0190").parts(0, 1, 0), NONE);
        due("parts(0, 1, 1) by 9", of("SN0180").parts(0, 1, 1), 0);
        due("parts(4, 5, 0), the least", of("SN4500").parts(4, 5, 0), 1);
        due("parts(4, 5, 1)", of("SN4500").parts(4, 5, 1), 4);
        SafetyPins third = of("SN0290N2190N2300N2300N2300N2300N2300");
        due("parts(0, 1, 0), at a third thing", third.parts(0, 1, 0), 5);
        due("parts(0, 1, 1), at a third thing", third.parts(0, 1, 1), 2);
    }

    private static void promise18() {
        promise = 18;
        SafetyPins x = of("SN0110N0210N2110N2310D01D23D45");
        String before = state(x);
        due("letsGo(0)", x.letsGo(0), 0);
        due("letsGo(1)", x.letsGo(1), 3);
        due("letsGo(2)", x.letsGo(2), 8);
        due("letsGo(3)", x.letsGo(3), 11);
        due("letsGo(4), can be done", x.letsGo(4), 0);
        due("letsGo(7)", x.letsGo(7), 11);
        due("letsGo(8)", x.letsGo(8), OUTSIDE);
        due("letsGo(-1)", x.letsGo(-1), OUTSIDE);
        unchanged("letsGo", before, x);
        x.open(0);
        due("letsGo(1), only shut ones", x.letsGo(1), 2);
        due("letsGo(1) of two deeds", of("SN0110D01D12").letsGo(3), 1);
        due("letsGo(4) of two deeds", of("SN0110D01D12").letsGo(4), OUTSIDE);
        due("letsGo(1) of none", of("SN0110").letsGo(1), OUTSIDE);
        due("letsGo(3), one pin for both", of("SN0110N1210N2310D03D13").letsGo(3), 2);
        due("letsGo(1), fewer than the least", of("SN0210N0210N2110D01").letsGo(1), 4);
    }

    private static void promise19() {
        promise = 19;
        SafetyPins x = of("SN0122N1230W01D01D02");
        String before = state(x);
        due("judge(4): three days, the deed", x.judge(4, 500L), NONE);
        due("judge(3): two days are too few", x.judge(3, 500L), 2);
        due("judge(4): three days, together", x.judge(4, 401L), 3);
        due("judge(3): two days, together", x.judge(3, 401L), NONE);
        due("judge(1): a day", x.judge(1, 0L), NONE);
        due("judge(4): three days, the other deed", x.judge(4, 501L), NONE);
        due("judge(4): tug 0 by 3, parted", x.judge(2, 103500L), NONE);
        due("judge(2): tug 0 by 2, parted", x.judge(2, 102500L), 1);
        due("judge(2): tug, together", x.judge(2, 103401L), 1);
        due("judge(1): tug by 0", x.judge(1, 100L), 0);
        due("judge(1): tug at 6", x.judge(1, 161L), 0);
        due("judge(1): tug at 5 by 9", x.judge(1, 159L), NONE);
        due("judge(2): opened twice", x.judge(2, 301301L), 1);
        due("judge(3): opened, shut, shut", x.judge(3, 301201201L), 2);
        due("judge(1): shut what is shut", x.judge(1, 200L), 0);
        due("judge(1): no such pin", x.judge(1, 302L), 0);
        due("judge(1): 2, 1, a pin", x.judge(2, 300210L), 1);
        due("judge(1): 3, 1, a pin", x.judge(1, 310L), 0);
        due("judge(1): one and the same", x.judge(1, 455L), NONE);
        due("judge(1): no such thing", x.judge(1, 466L), 0);
        due("judge(1): 4, 0, 6", x.judge(1, 406L), 0);
        due("judge(1): not together", x.judge(1, 403L), 0);
        due("judge(1): no such deed", x.judge(1, 502L), 0);
        due("judge(1): 5, 1, a deed", x.judge(2, 300510L), 1);
        due("judge(1): 0, 0, 1", x.judge(1, 1L), 0);
        due("judge(1): 0, 1, 0", x.judge(1, 10L), 0);
        due("judge(1): 6", x.judge(1, 600L), 0);
        due("judge(1): 9", x.judge(1, 999L), 0);
        due("judge(4): shut takes the wear", x.judge(4, 300200000L * 1000 + 401), NONE);
        due("judge(0)", x.judge(0, 0L), OUTSIDE);
        due("judge(5)", x.judge(5, 0L), OUTSIDE);
        due("judge(-1)", x.judge(-1, 0L), OUTSIDE);
        due("judge(1, -1)", x.judge(1, -1L), OUTSIDE);
        due("judge(1, 1000)", x.judge(1, 1000L), OUTSIDE);
        due("judge(2, 1000000)", x.judge(2, 1000000L), OUTSIDE);
        due("judge(2, 999999)", x.judge(2, 999999L), 0);
        due("judge(3, 1000000000)", x.judge(3, 1000000000L), OUTSIDE);
        due("judge(4, 10 to 12)", x.judge(4, 1000000000000L), OUTSIDE);
        due("judge(4, 10 to 12, less 1)", x.judge(4, 999999999999L), 0);
        due("judge(4, most)", x.judge(4, Long.MAX_VALUE), OUTSIDE);
        due("judge(4, least)", x.judge(4, Long.MIN_VALUE), OUTSIDE);
        unchanged("judge", before, x);
        days(x, 2);
        due("judge(2), from now on", x.judge(2, 500L), NONE);
        due("judge(4): worn, shut, a day, together", x.judge(4, 300200000401L), NONE);
    }

    private static void promise20() {
        promise = 20;
        SafetyPins x = new SafetyPins();
        due("trial(0, 0)", x.trial(0, 0), 1);
        due("trial(12, 1)", x.trial(12, 1), 2);
        due("trial(-1, 0)", x.trial(-1, 0), OUTSIDE);
        due("trial(13, 0)", x.trial(13, 0), OUTSIDE);
        due("trial(1, 2)", x.trial(1, 2), OUTSIDE);
        due("trial(1, -1)", x.trial(1, -1), OUTSIDE);
        due("count(10)", x.count(10), 2);
        for (int i = 3; i <= 6; i++) {
            due("trial(4, 0)", x.trial(4, 0), i);
        }
        due("trial(4, 1), full", x.trial(4, 1), FULL);
        due("trial(13, 1), full", x.trial(13, 1), OUTSIDE);
        due("trial(4, 2), full", x.trial(4, 2), OUTSIDE);
        due("count(10)", x.count(10), 6);
        due("which(0)", x.which(0), 14);
    }

    private static void promise21() {
        promise = 21;
        SafetyPins x = new SafetyPins();
        due("untry(), none", x.untry(), 0);
        x.trial(0, 1);
        x.trial(3, 0);
        due("which(0)", x.which(0), 0);
        due("untry()", x.untry(), 2);
        due("which(0), all again", x.which(0), 20);
        due("count(10)", x.count(10), 0);
        due("trial(1, 0)", x.trial(1, 0), 1);
    }

    private static void which(int p, int gave, int howMany, int first) {
        SafetyPins x = new SafetyPins();
        x.trial(p, gave);
        due("which(0) by " + p + ", " + gave, x.which(0), howMany);
        due("which(1) by " + p + ", " + gave, x.which(1), first);
    }

    private static void promise22() {
        promise = 22;
        SafetyPins x = new SafetyPins();
        due("which(0)", x.which(0), 20);
        due("which(1)", x.which(1), 0);
        due("which(2)", x.which(2), OUTSIDE);
        due("which(-1)", x.which(-1), OUTSIDE);
        which(0, 0, 20, 0);
        which(0, 1, 0, NONE);
        which(1, 1, 1, 0);
        which(3, 1, 3, 0);
        which(4, 1, 5, 0);
        which(5, 1, 7, 0);
        which(5, 0, 13, 5);
        which(9, 0, 5, 9);
        which(10, 0, 3, 17);
        which(12, 0, 1, 19);
        which(12, 1, 19, 0);
        x.trial(5, 0);
        x.trial(6, 1);
        due("which(0): just 5", x.which(0), 2);
        due("which(1): plain 5", x.which(1), 5);
        x.trial(5, 1);
        due("which(0), against itself", x.which(0), 0);
        due("which(1), against itself", x.which(1), NONE);
        x.untry();
        x.trial(11, 0);
        x.trial(12, 1);
        due("which(0): just 11", x.which(0), 1);
        due("which(1): brass 8", x.which(1), 18);
    }

    private static void share(SafetyPins x, int pin, int above, int below) {
        due("share(" + pin + ", true)", x.share(pin, true), above);
        due("share(" + pin + ", false)", x.share(pin, false), below);
    }

    private static void promise23() {
        promise = 23;
        share(of("SN0110"), 0, 1, 1);
        SafetyPins two = of("SN0110N1010");
        share(two, 0, 1, 2);
        share(two, 1, 1, 2);
        SafetyPins line = of("SN0110N1210");
        share(line, 0, 3, 2);
        share(line, 1, 3, 2);
        SafetyPins mixed = of("SN0110N0110N1210");
        String before = state(mixed);
        share(mixed, 0, 2, 3);
        share(mixed, 1, 2, 3);
        share(mixed, 2, 5, 3);
        share(mixed, 3, UNKNOWN, UNKNOWN);
        share(mixed, -1, UNKNOWN, UNKNOWN);
        unchanged("share", before, mixed);
        mixed.open(0);
        share(mixed, 0, 0, 1);
        share(mixed, 1, 3, 2);
        share(of("SN0110N0110N0110N0110N0110N0110N0110"), 6, 1, 7);
        share(of("SN0110N1210N2310N3410N4510"), 0, 137, 60);
        share(of("SN0110N1210N2310N3410N4510"), 2, 37, 10);
        share(of("SN0110N2310"), 1, 1, 1);
    }

    private static void rests(SafetyPins x, int howMany, int first) {
        due("rests(0, 1, 0)", x.rests(0, 1, 0), howMany);
        due("rests(0, 1, 1)", x.rests(0, 1, 1), first);
    }

    private static void promise24() {
        promise = 24;
        rests(of("S"), 1, 0);
        SafetyPins x = of("SN0120");
        String before = state(x);
        rests(x, 2, 1);
        rests(of("SN0190"), 2, 0);
        rests(of("SN0151"), 3, 0);
        rests(of("SN0120N0290"), 2, 1);
        rests(of("SN0191"), 1, 0);
        due("rests(0, 6, 0)", x.rests(0, 6, 0), UNKNOWN);
        due("rests(-1, 0, 0)", x.rests(-1, 0, 0), UNKNOWN);
        due("rests(6, 6, 2)", x.rests(6, 6, 2), UNKNOWN);
        due("rests(1, 1, 0)", x.rests(1, 1, 0), OUTSIDE);
        due("rests(0, 1, 2)", x.rests(0, 1, 2), OUTSIDE);
        due("rests(0, 1, -1)", x.rests(0, 1, -1), OUTSIDE);
        unchanged("rests", before, x);
        // plain 5: one 6 alone or 3 and 3 part them, 3 alone doesn't
        rests(of("SN0150"), 4, 0);
        // who is not left alone would give a 9, if there was such a choice
        rests(of("SN0170N1291"), 3, 0);
        // only 0 gives, and 1 is not left alone by it
        rests(of("SN0200N2160N2300"), 1, 10);
        SafetyPins apart = of("SN0190");
        apart.open(0);
        rests(apart, 1, 0);
    }

    private static void gives(SafetyPins x, int tenths, int above, int below) {
        due("gives(0, 1, " + tenths + ", true)", x.gives(0, 1, tenths, true), above);
        due("gives(0, 1, " + tenths + ", false)", x.gives(0, 1, tenths, false), below);
    }

    private static void promise25() {
        promise = 25;
        SafetyPins x = of("SN0110N2310");
        String before = state(x);
        gives(x, 0, 1, 1);
        gives(x, 3, 7, 10);
        gives(x, 5, 1, 2);
        gives(x, 10, 0, 1);
        gives(x, 11, OUTSIDE, OUTSIDE);
        gives(x, -1, OUTSIDE, OUTSIDE);
        due("gives(0, 2, 5), never together", x.gives(0, 2, 5, true), 0);
        due("gives(0, 2, 5), never together", x.gives(0, 2, 5, false), 1);
        due("gives(6, 6, 11)", x.gives(6, 6, 11, true), UNKNOWN);
        due("gives(0, -1, 5)", x.gives(0, -1, 5, true), UNKNOWN);
        due("gives(1, 1, 5)", x.gives(1, 1, 5, true), OUTSIDE);
        unchanged("gives", before, x);
        gives(of("SN0110N0110"), 5, 3, 4);
        gives(of("SN0200N2100"), 5, 1, 4);
        gives(of("SN0200N2100"), 1, 81, 100);
        gives(of("SN0210N2110N0110"), 4, 93, 125);
        gives(of("SN0110N0110N0110N0110N0110N0110N0110"), 9, 5217031, 10000000);
        x.open(0);
        gives(x, 3, 0, 1);
        SafetyPins y = of("SN0110N0110");
        y.open(1);
        gives(y, 2, 4, 5);
        gives(y, 10, 0, 1);
    }

    private static void promise26() {
        promise = 26;
        SafetyPins x = new SafetyPins();
        due("seed(5)", x.seed(5), 0);
        due("seed(-7)", x.seed(-7), 5);
        due("seed(most)", x.seed(Long.MAX_VALUE), -7);
        due("seed(least)", x.seed(Long.MIN_VALUE), Long.MAX_VALUE);
        due("seed(0)", x.seed(0), Long.MIN_VALUE);
        due("seed(0)", x.seed(0), 0);
    }

    /** A seed by which the next lot is as told: found by the rule as the document tells it. */
    private static long seedFor(int lot) {
        for (long seed = 0; seed < 100000; seed++) {
            long x = seed * 6364136223846793005L + 1442695040888963407L;
            if (((x >>> 33) % 32) == lot) {
                return seed;
            }
        }
        return -1;
    }

    private static void season(SafetyPins x, int lot, int want) {
        x.seed(seedFor(lot));
        due("seasons(1) by lot " + lot, x.seasons(1), want);
    }

    private static void promise27() {
        promise = 27;
        SafetyPins x = of("SN0130N1240N2300W02");
        x.open(2);
        String before = state(x);
        x.seed(2);
        due("seasons(0)", x.seasons(0), OUTSIDE);
        due("seasons(31)", x.seasons(31), OUTSIDE);
        due("seasons(-1)", x.seasons(-1), OUTSIDE);
        due("seed(2), unchanged", x.seed(2), 2);
        x.seasons(1);
        due("seed(0)", x.seed(0), -4275776585127002199L);
        season(x, 0, 2);
        season(x, 1, 3);
        season(x, 2, 1);
        season(x, 5, 1);
        season(x, 6, 1);
        season(x, 8, 0);
        season(x, 9, 1);
        season(x, 12, 1);
        season(x, 13, 2);
        season(x, 14, 2);
        season(x, 15, 1);
        season(x, 16, 1);
        season(x, 19, 1);
        season(x, 20, 1);
        season(x, 31, 1);
        unchanged("seasons", before, x);
        season(of("SN4530"), 5, 1);
        SafetyPins seven = of("SN0190N0190N0190N0190N0190N0190N0190");
        seven.open(6);
        season(seven, 12, 0);
        season(seven, 19, 1);
        season(seven, 18, 2);
        SafetyPins day = of("SN0113W02");
        season(day, 19, 0);
        season(day, 20, 1);
        season(day, 31, 1);
        long seed = seedFor(13);
        day.seed(seed);
        int together = 0;
        SafetyPins byHand = of("SN0113W02");
        for (int i = 0; i < 30; i++) {
            seed = seed * 6364136223846793005L + 1442695040888963407L;
            int lot = (int) ((seed >>> 33) % 32);
            if (lot < 6) {
                byHand.tug(lot, 4);
            } else if (lot == 6) {
                byHand.shut(0);
            } else if (lot == 13) {
                byHand.open(0);
            } else if (lot >= 20) {
                byHand.day();
            }
            together += byHand.count(5);
        }
        due("seasons(30)", day.seasons(30), together);
        due("seed(0), 30 times on", day.seed(0), seed);
        due("count(4), no day passed", day.count(4), 0);
        due("count(9), no act", day.count(9), 0);
    }

    private static void promise28() {
        promise = 28;
        SafetyPins x = of("SN0132W01");
        due("keep(0)", x.keep(0), 0);
        days(x, 2);
        String before = state(x);
        due("keep(1)", x.keep(1), 2);
        due("keep(2)", x.keep(2), UNKNOWN);
        due("keep(-1)", x.keep(-1), UNKNOWN);
        unchanged("keep", before, x);
        x.day();
        due("again(1)", x.again(1), 2);
        due("again(0)", x.again(0), 0);
        x.day();
        due("keep(0), over what was kept", x.keep(0), 1);
        x.day();
        due("again(0)", x.again(0), 1);
        due("count(8)", x.count(8), 1);
    }

    private static void promise29() {
        promise = 29;
        SafetyPins x = of("SN0132N1220W01");
        due("again(0), none kept", x.again(0), STATE);
        due("again(2)", x.again(2), UNKNOWN);
        due("again(-1)", x.again(-1), UNKNOWN);
        days(x, 2);
        x.open(1);
        x.keep(1);
        due("again(0), only the other kept", x.again(0), STATE);
        due("count(9), not emptied", x.count(9), 3);
        x.shut(1);
        days(x, 1);
        x.open(0);
        x.trial(3, 1);
        x.seed(4);
        due("again(1)", x.again(1), 2);
        due("count(4)", x.count(4), 2);
        due("count(5)", x.count(5), 2);
        due("pin(0, 5)", x.pin(0, 5), 2);
        due("count(9), the row is empty", x.count(9), 0);
        due("undo()", x.undo(), STATE);
        due("count(10), tried stays", x.count(10), 1);
        due("seed(0), the seed stays", x.seed(0), 4);
        x.day();
        due("undo()", x.undo(), 0);
        due("count(4)", x.count(4), 2);
        due("again(1), once more", x.again(1), 2);
        x.town();
        due("again(1), a town anew", x.again(1), STATE);
    }

    private static void promise30() {
        promise = 30;
        SafetyPins x = of("SN0120N1252N3450W11W12D01D12D15");
        x.day();
        x.day();
        x.open(0);
        x.trial(1, 0);
        x.write('N');
        int[] want = {32, 3, 2, 3, 2, 1, 5, 2, 2, 3, 1};
        for (int what = 0; what <= 10; what++) {
            due("count(" + what + ")", x.count(what), want[what]);
        }
        due("count(11)", x.count(11), OUTSIDE);
        due("count(-1)", x.count(-1), OUTSIDE);
        due("count(7) of a line", of("SN0110N1210N2310N3410N4510").count(7), 15);
        due("count(7) of two threes", of("SN0110N1210N3410N4510").count(7), 6);
        SafetyPins y = of("SN0192N1292W11");
        days(y, 3);
        due("count(8) of two", y.count(8), 6);
    }
}
