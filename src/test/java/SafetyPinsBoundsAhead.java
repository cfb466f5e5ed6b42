/** The bounds of promises 13 to 19: what gives, what holds together, what comes of it; nothing is changed by it. */
final class SafetyPinsBoundsAhead extends SafetyPinsBench {
    private static final String SEVEN_ALIKE = "S" + "N0510".repeat(7);

    private static void refusesWhatBut0And1(String call, CallOfOne c) {
        refusedFor(OUTSIDE, call, c, -1, 2, 3, LEAST, MOST);
    }

    // ---- promise 13

    static void p13_days0To20() {
        sentence(13, "IN n DAYS (0 to 20): PINS that are OPEN (bits).");
        SafetyPinsCounted x = of("SN0142N1233N2352N0363N3420W02W14W21W09");
        x.open(4);
        SafetyPinsCounted passing = of("SN0142N1233N2352N0363N3420W02W14W21W09");
        passing.open(4);
        for (int n = 0; n <= 20; n++) {
            due("later(" + n + ")", x.later(n), passing.count(5));
            passing.day();
        }
        refusedFor(OUTSIDE, "later", SafetyPinsCounted::later, -1, 21, 22, LEAST, MOST);
        due("later(20) of a new object", fresh().later(20), 0);
        SafetyPinsCounted last = of("SN0152W01W20W20W20");
        last.day();
        due("later(19)", last.later(19), 0);
        due("later(20), just then it gives", last.later(20), 1);
    }

    static void p13_nothingIsChanged() {
        sentence(13, "In what follows nothing is changed.");
        changesNothingAnywhere("later(0)", x -> x.later(0));
        changesNothingAnywhere("later(1)", x -> x.later(1));
        changesNothingAnywhere("later(20)", x -> x.later(20));
    }

    // ---- promise 14

    static void p14_pinsThereAre() {
        sentence(14, "UNKNOWN; STATE: it is OPEN.");
        knowsPins("lasts", SafetyPinsCounted::lasts);
        answersAndChangesNothing(SafetyPinsBench::half, "lasts(1), that is open", x -> x.lasts(1), STATE);
        due("lasts(0), that is shut", half().lasts(0), 5);
    }

    static void p14_days1To20() {
        sentence(14, "in how many DAYS (1 to 20) it is OPEN first; NONE.");
        due("lasts(0), today", of("SN0100W01").lasts(0), 1);
        SafetyPinsCounted x = of("SN0152W01W20W20W20");
        due("lasts(0), day 21 is one too late", x.lasts(0), NONE);
        due("later(20)", x.later(20), 0);
        x.day();
        due("lasts(0), the last of 20 days", x.lasts(0), 20);
        x.day();
        due("lasts(0), the one before", x.lasts(0), 19);
        days(x, 18);
        due("lasts(0), one day is left", x.lasts(0), 1);
        due("lasts(0), never", of("SN0190W09").lasts(0), NONE);
        due("lasts(0) of no pull", of("SN0100").lasts(0), NONE);
        due("lasts(0), a sprung one that shuts again", of("SN0113W00W02W00").lasts(0), 2);
    }

    static void p14_nothingIsChanged() {
        sentence(14, "In what follows nothing is changed.");
        changesNothing(SafetyPinsBench::half, "lasts(0)", x -> x.lasts(0));
        for (int pin = 0; pin <= 6; pin++) {
            int of = pin;
            changesNothing(SafetyPinsBench::stirred, "lasts(" + pin + ")", x -> x.lasts(of));
        }
    }

    // ---- promise 15

    static void p15_pinsThereAre() {
        sentence(15, "UNKNOWN; STATE: it is OPEN.");
        knowsPins("chain", SafetyPinsCounted::chain);
        answersAndChangesNothing(SafetyPinsBench::half, "chain(1), that is open", x -> x.chain(1), STATE);
        due("chain(0), that is shut", half().chain(0), 1);
    }

    static void p15_itAsWell() {
        sentence(15, "PINS that are OPEN behind PINGS by these and were not (bits; it as well)");
        due("chain(0), it alone", of("SN0190").chain(0), 1);
        SafetyPinsCounted row = of("SN0100N1200N2300N3400N4500N4500N4500");
        for (int pin = 0; pin <= 6; pin++) {
            due("chain(" + pin + "), all", row.chain(pin), 127);
        }
        row.open(3);
        due("chain(0), not what was open, nor what is behind it", row.chain(0), 7);
        due("chain(6)", row.chain(6), 112);
        SafetyPinsCounted others = of("SN0190N2300");
        due("chain(0), of others 0", others.chain(0), 1);
    }

    static void p15_loads1AtBothEnds() {
        sentence(15, "if it was OPEN now, and LOADS of both its ends 1, of others 0");
        due("chain(0), 1 is more than 0", of("SN0190N1200").chain(0), 3);
        due("chain(0), 1 is not more than 1", of("SN0190N1210").chain(0), 1);
        due("chain(0), at its first end", of("SN0190N0200").chain(0), 3);
        due("chain(0), 2 are more than 1", of("SN0190N0110").chain(0), 3);
        due("chain(0), 2 are not more than 2", of("SN0190N0120").chain(0), 1);
        due("chain(0), 4 are more than 3", of("SN0190N0110N0101").chain(0), 7);
        due("chain(0), 2 are not more than 3", of("SN0190N0101").chain(0), 1);
        SafetyPinsCounted worn = of("SN0190N1212W11");
        due("chain(0), not worn", worn.chain(0), 1);
        worn.day();
        due("chain(0), worn", worn.chain(0), 3);
    }

    static void p15_nothingIsChanged() {
        sentence(15, "In what follows nothing is changed.");
        changesNothing(SafetyPinsBench::half, "chain(0)", x -> x.chain(0));
        for (int pin = 0; pin <= 6; pin++) {
            int of = pin;
            changesNothing(SafetyPinsBench::stirred, "chain(" + pin + ")", x -> x.chain(of));
        }
    }

    // ---- promise 16

    static void p16_twoThings() {
        sentence(16, "UNKNOWN: both; OUTSIDE: both are one.");
        knowsTwoThings("cuts", SafetyPinsCounted::cuts);
        due("cuts(0, 5) of a new object", fresh().cuts(0, 5), 0);
        due("cuts(5, 0) of a new object", fresh().cuts(5, 0), 0);
    }

    static void p16_fewestAndLeast() {
        sentence(16, "the fewest SHUT PINS (bits; of like ones the least) with which OPENED they are not TOGETHER; 0: they are not.");
        due("cuts(0, 5), one pin", of("SN0510").cuts(0, 5), 1);
        SafetyPinsCounted seven = of(SEVEN_ALIKE);
        due("cuts(0, 5), all seven", seven.cuts(0, 5), 127);
        seven.open(0);
        seven.open(6);
        due("cuts(0, 5), those that are shut", seven.cuts(0, 5), 62);
        seven.tug(0, 9);
        due("cuts(0, 5), none is shut", seven.cuts(0, 5), 0);
        SafetyPinsCounted row = of("SN0110N1210N2310N3410N4510");
        due("cuts(0, 5), the least of five", row.cuts(0, 5), 1);
        due("cuts(5, 0)", row.cuts(5, 0), 1);
        due("cuts(2, 5), the least of three", row.cuts(2, 5), 4);
        due("cuts(4, 5), one", row.cuts(4, 5), 16);
        due("cuts(0, 5), one of more bits before two of less", of("SN0110N0110N1510").cuts(0, 5), 4);
        due("cuts(0, 5), the least of two and two", of("SN0110N0110N1510N1510").cuts(0, 5), 3);
        due("cuts(0, 5), not together", of("SN0110N4510").cuts(0, 5), 0);
    }

    static void p16_nothingIsChanged() {
        sentence(16, "In what follows nothing is changed.");
        changesNothingAnywhere("cuts(0, 5)", x -> x.cuts(0, 5));
        changesNothingAnywhere("cuts(2, 1)", x -> x.cuts(2, 1));
    }

    // ---- promise 17

    static void p17_twoThingsAndWhat() {
        sentence(17, "UNKNOWN: both; OUTSIDE: both are one, what.");
        knowsTwoThings("parts for 0", (x, one, other) -> x.parts(one, other, 0));
        knowsTwoThings("parts for 1", (x, one, other) -> x.parts(one, other, 1));
        refusesWhatBut0And1("parts(0, 5, ..)", (x, what) -> x.parts(0, 5, what));
        refusesWhatBut0And1("parts(1, 2, ..)", (x, what) -> x.parts(1, 2, what));
        refusesWhatBut0And1("parts(3, 3, ..)", (x, what) -> x.parts(3, 3, what));
        for (int what : new int[] {LEAST, -1, 2, MOST}) {
            refusedAlways(UNKNOWN, "parts(0, 6, " + what + ")", x -> x.parts(0, 6, what));
            refusedAlways(UNKNOWN, "parts(-1, 5, " + what + ")", x -> x.parts(-1, 5, what));
            refusedAlways(UNKNOWN, "parts(6, 6, " + what + ")", x -> x.parts(6, 6, what));
        }
    }

    private static void parts(SafetyPinsCounted x, int one, int other, int n, int at) {
        due("parts(" + one + ", " + other + ", 0)", x.parts(one, other, 0), n);
        due("parts(" + one + ", " + other + ", 1)", x.parts(one, other, 1), at);
    }

    static void p17_n1To9() {
        sentence(17, "the least n (1 to 9; 0: they are not TOGETHER) by which, TUGGED at any one THING, they are not TOGETHER");
        parts(fresh(), 0, 5, 0, NONE);
        for (int strength = 0; strength <= 9; strength++) {
            int n = strength == 9 ? NONE : strength + 1;
            parts(of("SN05" + strength + "0"), 0, 5, n, strength == 9 ? NONE : 0);
            parts(of("SN05" + strength + "3"), 5, 0, n, strength == 9 ? NONE : 0);
            int brass = strength + 4 > 9 ? NONE : strength + 4;
            parts(of("SN05" + strength + "1"), 0, 5, brass, brass == NONE ? NONE : 0);
        }
        SafetyPinsCounted x = of("SN0500N0500");
        x.open(0);
        parts(x, 0, 5, 1, 0);
        x.open(1);
        parts(x, 0, 5, 0, NONE);
        x.shut(1);
        parts(x, 0, 5, 1, 0);
    }

    static void p17_atTheLeastThing() {
        sentence(17, "at which (the least; NONE); NONE.");
        parts(of("SN4500"), 4, 5, 1, 4);
        parts(of("SN4500"), 5, 4, 1, 4);
        parts(of("SN0510"), 5, 0, 2, 0);
        // five pins give at 5 by 1, and so bring 5 to it
        parts(of("SN0590N5190N5400N5400N5400N5400N5400"), 0, 1, 5, 5);
        parts(of("SN0590N5190N5400N5400N5400N5400N5400"), 1, 0, 5, 5);
        // and at 0, 4 and 5 alike
        parts(of("SN0500N5100"), 1, 0, 1, 0);
        parts(of("SN1520N5320"), 3, 1, 3, 1);
    }

    static void p17_nothingIsChanged() {
        sentence(17, "In what follows nothing is changed.");
        changesNothingAnywhere("parts(0, 1, 0)", x -> x.parts(0, 1, 0));
        changesNothingAnywhere("parts(5, 0, 1)", x -> x.parts(5, 0, 1));
    }

    // ---- promise 18

    static void p18_deedsThereAre() {
        sentence(18, "OUTSIDE: deeds (0 to 2 to the power of how many there are, less 1).");
        String[] deeds = {"", "D05", "D05D14", "D05D14D23"};
        for (int there = 0; there <= 3; there++) {
            String town = "SN0510" + deeds[there];
            int past = 1 << there;
            due("letsGo(0) of " + there, of(town).letsGo(0), 0);
            due("letsGo(all) of " + there, of(town).letsGo(past - 1), there == 0 ? 0 : 1);
            for (int none : new int[] {LEAST, -8, -1, past, past + 1, 8, 32, MOST}) {
                answersAndChangesNothing(() -> of(town), "letsGo(" + none + ") of " + there, x -> x.letsGo(none), OUTSIDE);
            }
        }
        refusedFor(OUTSIDE, "letsGo", SafetyPinsCounted::letsGo, -1, 8, 9, 16, LEAST, MOST);
        answersAndChangesNothing(SafetyPinsBench::fresh, "letsGo(1), no deed yet", x -> x.letsGo(1), OUTSIDE);
        answersAndChangesNothing(SafetyPinsBench::half, "letsGo(2), one deed", x -> x.letsGo(2), OUTSIDE);
    }

    static void p18_fewestAndLeast() {
        sentence(18, "the fewest SHUT PINS (bits; of like ones the least) with which OPENED all of these can be done.");
        due("letsGo(1), all seven", of(SEVEN_ALIKE + "D05").letsGo(1), 127);
        SafetyPinsCounted row = of("SN0110N1210N2310N3410N4510D05D35D01");
        due("letsGo(0)", row.letsGo(0), 0);
        due("letsGo(1), the least of five", row.letsGo(1), 1);
        due("letsGo(2), the least of two", row.letsGo(2), 8);
        due("letsGo(4)", row.letsGo(4), 1);
        due("letsGo(3), one for both", row.letsGo(3), 8);
        due("letsGo(5), one for both", row.letsGo(5), 1);
        due("letsGo(6), two", row.letsGo(6), 9);
        due("letsGo(7), two", row.letsGo(7), 9);
        row.open(3);
        due("letsGo(3), they can be done", row.letsGo(3), 0);
        due("letsGo(7), one is left", row.letsGo(7), 1);
        due("letsGo(1), one of more bits before two of less", of("SN0110N0110N1510D05").letsGo(1), 4);
    }

    static void p18_nothingIsChanged() {
        sentence(18, "In what follows nothing is changed.");
        changesNothingAnywhere("letsGo(0)", x -> x.letsGo(0));
        changesNothing(SafetyPinsBench::half, "letsGo(1)", x -> x.letsGo(1));
        changesNothing(SafetyPinsBench::stirred, "letsGo(7)", x -> x.letsGo(7));
    }

    // ---- promise 19

    static void p19_n1To4() {
        sentence(19, "JUDGED: n doings (1 to 4), told as three figures each");
        refusedFor(OUTSIDE, "judge of a row of 0 and n", (x, n) -> x.judge(n, 0), 0, 5, -1, 6, LEAST, MOST);
        refusedFor(OUTSIDE, "judge of a row of -1 and n", (x, n) -> x.judge(n, -1), 0, 1, 4, 5, LEAST, MOST);
        for (int n = 1; n <= 4; n++) {
            due("judge(" + n + ", 0)", fresh().judge(n, 0), NONE);
        }
    }

    static void p19_rowOf3nFigures() {
        sentence(19, "OUTSIDE: n, row (0 or more, 3 n figures at most).");
        long past = 1;
        for (int n = 1; n <= 4; n++) {
            past *= 1000;
            long first = past;
            int doings = n;
            due("judge(" + n + ", the last row)", fresh().judge(n, past - 1), 0);
            due("judge(" + n + ", 0)", fresh().judge(n, 0), NONE);
            for (long row : new long[] {Long.MIN_VALUE, -past, -1, past, past + 1, Long.MAX_VALUE, 1L << 32, 1L << 62}) {
                if (row < 0 || row >= first) {
                    refusedAlways(OUTSIDE, "judge(" + n + ", " + row + ")", x -> x.judge(doings, row));
                }
            }
        }
        due("judge(4, 12 figures)", fresh().judge(4, 400400400400L), NONE);
        due("judge(3, 9 figures)", fresh().judge(3, 400400400L), NONE);
        due("judge(4, 0, 0, 1 at its head)", fresh().judge(4, 1400400400L), 0);
    }

    /** Of the whole town with pins 0 to 2 open: what a doing of three figures comes to, told by cases. */
    private static boolean canBe(int kind, int second, int third) {
        boolean isOpen = third <= 2;
        boolean isPin = third <= 6;
        switch (kind) {
            case 0: return second == 0 && third == 0;
            case 1: return second <= 5 && third >= 1;
            case 2: return second == 0 && isPin && isOpen;
            case 3: return second == 0 && isPin && !isOpen;
            // 2, 3, 4, 5, 0 by pins 3 to 6; 2 and 0 by pin 6; 1 alone
            case 4: return second <= 5 && third <= 5 && groupOf(second) == groupOf(third);
            case 5: return second == 0 && third <= 2 && groupOf("012".charAt(third) - '0') != groupOf("345".charAt(third) - '0');
            default: return false;
        }
    }

    private static int groupOf(int thing) {
        return thing == 1 ? 1 : 0;
    }

    static void p19_everyDoing() {
        sentence(19, "(0, 0, 0: A DAY; 1, a THING, n: TUGGED; 2, 0, a PIN: SHUT, that is OPEN; 3, 0, a PIN: OPENED, that is SHUT; 4, two THINGS (one and the same too: it is so): they are TOGETHER; 5, 0, a DEED: it can be done)");
        for (int kind = 0; kind <= 9; kind++) {
            SafetyPinsCounted x = of(WHOLE_TOWN);
            x.open(0);
            x.open(1);
            x.open(2);
            for (int figures = 0; figures <= 99; figures++) {
                int want = canBe(kind, figures / 10, figures % 10) ? NONE : 0;
                due("judge(1, " + kind + figures / 10 + figures % 10 + ") of the whole town", x.judge(1, 100 * kind + figures), want);
            }
        }
    }

    static void p19_noPinsNoDeeds() {
        sentence(19, "the first that can not be (or is not so); NONE: none.");
        for (int kind = 0; kind <= 9; kind++) {
            SafetyPinsCounted x = fresh();
            for (int figures = 0; figures <= 99; figures++) {
                int second = figures / 10;
                int third = figures % 10;
                boolean isSo = kind == 0 && figures == 0 || kind == 1 && second <= 5 && third >= 1
                    || kind == 4 && second == third && second <= 5;
                due("judge(1, " + kind + second + third + ") of a new object", x.judge(1, 100 * kind + figures), isSo ? NONE : 0);
            }
        }
    }

    static void p19_placesFrom0On() {
        sentence(19, "the place (from 0 on) of the first that can not be");
        SafetyPinsCounted x = of("SN0110D01");
        long[] unit = {1000000000L, 1000000L, 1000L, 1L};
        for (int n = 1; n <= 4; n++) {
            for (int place = 0; place < n; place++) {
                long one = unit[4 - n + place];
                due("judge(" + n + "), only place " + place, x.judge(n, 999 * one), place);
                due("judge(" + n + "), place " + place + " and all behind it", x.judge(n, 999 * one + (one - 1)), place);
            }
        }
        due("judge(4), opened, then the deed", x.judge(4, 401300500200L), NONE);
        due("judge(4), opened, not together then", x.judge(4, 300401401401L), 1);
        due("judge(4), opened, opened at the end", x.judge(4, 300200300300L), 3);
        due("judge(4), shut again, together at the end", x.judge(4, 300500200401L), NONE);
        due("judge(4), shut again, no deed at the end", x.judge(4, 300500200500L), 3);
    }

    static void p19_eachIsDone() {
        sentence(19, "JUDGED: n doings (1 to 4)");
        SafetyPinsCounted x = of("SN0122W01D01");
        due("judge(4), three days, the deed", x.judge(4, 500), NONE);
        due("judge(3), two days, the deed", x.judge(3, 500), 2);
        due("judge(3), two days, together", x.judge(3, 401), NONE);
        due("judge(4), three days, together", x.judge(4, 401), 3);
        due("judge(2), a tug of 3, the deed", x.judge(2, 103500), NONE);
        due("judge(2), a tug of 2, the deed", x.judge(2, 102500), 1);
        due("judge(2), a tug of 2, together", x.judge(2, 102401), NONE);
        due("judge(4), a day, opened, shut, together", x.judge(4, 300200401), NONE);
        due("judge(4), a day, a tug of 2, the deed", x.judge(4, 112500000L), NONE);
        x.day();
        x.day();
        due("judge(2), the third day, the deed", x.judge(2, 500), NONE);
        due("judge(4), shut without wear, a day, together", x.judge(4, 300200000401L), NONE);
        due("judge(1), the deed", x.judge(1, 500), 0);
    }

    static void p19_theFirstAreTheHighest() {
        sentence(19, "(the first one's are the highest of row)");
        SafetyPinsCounted x = of("SN0110D01");
        due("judge(2), opened, the deed", x.judge(2, 300500), NONE);
        due("judge(2), the deed, opened", x.judge(2, 500300), 0);
        due("judge(4), three days ahead of it", x.judge(4, 401), NONE);
        due("judge(4), three days ahead of the deed", x.judge(4, 500), 3);
        due("judge(1), the deed", x.judge(1, 500), 0);
    }

    static void p19_nothingIsChanged() {
        sentence(19, "In what follows nothing is changed.");
        changesNothingAnywhere("judge(4, days)", x -> x.judge(4, 0));
        changesNothingAnywhere("judge(4, tugs)", x -> x.judge(4, 109119129139L));
        changesNothing(SafetyPinsBench::half, "judge(4, by hand)", x -> x.judge(4, 201300301200L));
        changesNothing(SafetyPinsBench::stirred, "judge(4, by hand and a day)", x -> x.judge(4, 206301000306L));
        answersAndChangesNothing(SafetyPinsBench::crowded, "judge(4, by hand)", x -> x.judge(4, 201306206301L), NONE);
        changesNothing(SafetyPinsBench::crowded, "judge(4, by hand, then not)", x -> x.judge(4, 201306206999L));
    }
}
