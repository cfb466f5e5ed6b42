/** Things held by pins, two and two: what gives, what holds together, and what comes of it. */
public final class SafetyPins {
    public static final int UNKNOWN = -1, OUTSIDE = -2, STATE = -3, FULL = -4, NONE = -9;

    private static final int THINGS = 6;
    private static final int MOST_LETTERS = 60;
    private static final int MOST_PINS = 7;
    private static final int MOST_PULLS = 4;
    private static final int MOST_DEEDS = 3;
    private static final int MOST_ACTS = 14;
    private static final int MOST_TRIALS = 6;
    private static final int MOST_DAYS = 20;
    private static final int MOST_DOINGS = 4;
    private static final int MOST_SEASONS = 30;
    private static final int SLOTS = 2;
    private static final int CHOICES = 3;

    private static final int BRASS = 1, RUSTY = 2, SPRUNG = 3;

    private static final int[] FACTORIALS = {1, 1, 2, 6, 24, 120, 720, 5040};
    private static final long[] THOUSANDS = {1L, 1000L, 1000000L, 1000000000L, 1000000000000L};

    private final Script script;
    private final Town made;
    private final Forces forces;
    private final Plight now;
    /** Stands for "now" wherever something is only thought through, so that nothing changes. */
    private final Plight thought;
    private final Acts acts;
    private final Plight[] kept;
    private final boolean[] isKept;
    private final Trials tried;
    private final int[] oneGains;
    private final int[] otherGains;
    private long seedNow;

    public SafetyPins() {
        script = new Script();
        made = new Town();
        forces = new Forces(made);
        now = new Plight();
        thought = new Plight();
        acts = new Acts();
        kept = new Plight[SLOTS];
        for (int slot = 0; slot < SLOTS; slot++) {
            kept[slot] = new Plight();
        }
        isKept = new boolean[SLOTS];
        tried = new Trials();
        oneGains = new int[CHOICES * CHOICES];
        otherGains = new int[CHOICES * CHOICES];
        seedNow = 0;
    }

    // ---- the town

    public int write(int letter) {
        if (letter < 0 || letter > 255) {
            return OUTSIDE;
        }
        if (script.length >= MOST_LETTERS) {
            return FULL;
        }
        script.add(letter);
        return script.length;
    }

    public int wipe() {
        int were = script.length;
        script.length = 0;
        return were;
    }

    public int fault() {
        return script.firstFault();
    }

    public int town() {
        if (script.firstFault() != NONE) {
            return STATE;
        }
        made.readFrom(script);
        now.begin();
        acts.forget();
        for (int slot = 0; slot < SLOTS; slot++) {
            isKept[slot] = false;
        }
        return 100 * made.pins + 10 * made.pulls + made.deeds;
    }

    public int pin(int pin, int what) {
        if (!isPin(pin)) {
            return UNKNOWN;
        }
        switch (what) {
            case 0: return made.one[pin];
            case 1: return made.other[pin];
            case 2: return made.strength[pin];
            case 3: return made.kind[pin];
            case 4: return made.holds(pin, now.wear[pin]);
            case 5: return now.wear[pin];
            case 6: return now.isOpen(pin) ? 1 : 0;
            default: return OUTSIDE;
        }
    }

    public int with(int thing) {
        if (!isThing(thing)) {
            return UNKNOWN;
        }
        return made.reach(thing, now.open);
    }

    // ---- acts

    public int day() {
        acts.remember(now);
        return forces.passDay(now);
    }

    public int tug(int thing, int n) {
        if (!isThing(thing)) {
            return UNKNOWN;
        }
        if (n < 1 || n > 9) {
            return OUTSIDE;
        }
        acts.remember(now);
        return forces.pullAt(now, thing, n);
    }

    public int shut(int pin) {
        if (!isPin(pin)) {
            return UNKNOWN;
        }
        if (!now.isOpen(pin)) {
            return STATE;
        }
        acts.remember(now);
        now.close(pin);
        return Integer.bitCount(now.open);
    }

    public int open(int pin) {
        if (!isPin(pin)) {
            return UNKNOWN;
        }
        if (now.isOpen(pin)) {
            return STATE;
        }
        acts.remember(now);
        now.unpin(pin);
        return Integer.bitCount(now.open);
    }

    public int undo() {
        if (acts.length == 0) {
            return STATE;
        }
        acts.takeBack(now);
        return acts.length;
    }

    // ---- what gives, what holds

    public int later(int n) {
        if (n < 0 || n > MOST_DAYS) {
            return OUTSIDE;
        }
        thought.become(now);
        for (int passed = 0; passed < n; passed++) {
            forces.passDay(thought);
        }
        return thought.open;
    }

    public int lasts(int pin) {
        if (!isPin(pin)) {
            return UNKNOWN;
        }
        if (now.isOpen(pin)) {
            return STATE;
        }
        thought.become(now);
        for (int passed = 1; passed <= MOST_DAYS; passed++) {
            forces.passDay(thought);
            if (thought.isOpen(pin)) {
                return passed;
            }
        }
        return NONE;
    }

    public int chain(int pin) {
        if (!isPin(pin)) {
            return UNKNOWN;
        }
        if (now.isOpen(pin)) {
            return STATE;
        }
        thought.become(now);
        thought.unpin(pin);
        forces.clear();
        forces.burdenEnds(pin);
        forces.ping(thought);
        return thought.open & ~now.open;
    }

    public int cuts(int one, int other) {
        int refusal = refusalOfTwo(one, other);
        if (refusal != 0) {
            return refusal;
        }
        int best = NONE;
        for (int cut = 0; cut <= made.allPins(); cut++) {
            if (isBetterCut(cut, best) && !made.areTogether(one, other, now.open | cut)) {
                best = cut;
            }
        }
        return best;
    }

    public int parts(int one, int other, int what) {
        int refusal = refusalOfTwo(one, other);
        if (refusal != 0) {
            return refusal;
        }
        if (what < 0 || what > 1) {
            return OUTSIDE;
        }
        if (!made.areTogether(one, other, now.open)) {
            return what == 0 ? 0 : NONE;
        }
        for (int n = 1; n <= 9; n++) {
            int thing = firstThatParts(one, other, n);
            if (thing != NONE) {
                return what == 0 ? n : thing;
            }
        }
        return NONE;
    }

    public int letsGo(int deeds) {
        if (deeds < 0 || deeds >= 1 << made.deeds) {
            return OUTSIDE;
        }
        int best = NONE;
        for (int cut = 0; cut <= made.allPins(); cut++) {
            if (isBetterCut(cut, best) && (made.doable(now.open | cut) & deeds) == deeds) {
                best = cut;
            }
        }
        return best;
    }

    public int judge(int n, long row) {
        if (n < 1 || n > MOST_DOINGS || row < 0 || row >= THOUSANDS[n]) {
            return OUTSIDE;
        }
        thought.become(now);
        for (int place = 0; place < n; place++) {
            int told = (int) (row / THOUSANDS[n - 1 - place] % 1000);
            if (!comesTrue(told / 100, told / 10 % 10, told % 10)) {
                return place;
            }
        }
        return NONE;
    }

    // ---- tried

    public int trial(int p, int gave) {
        if (p < 0 || p > 12 || gave < 0 || gave > 1) {
            return OUTSIDE;
        }
        if (tried.length >= MOST_TRIALS) {
            return FULL;
        }
        tried.add(p, gave == 1);
        return tried.length;
    }

    public int untry() {
        int were = tried.length;
        tried.length = 0;
        return were;
    }

    public int which(int what) {
        if (what < 0 || what > 1) {
            return OUTSIDE;
        }
        int found = 0;
        int first = NONE;
        for (int guess = 0; guess < 20; guess++) {
            if (tried.agreeWith(guess / 10, guess % 10)) {
                first = found == 0 ? guess : first;
                found++;
            }
        }
        return what == 0 ? found : first;
    }

    // ---- shares, rests, chances

    public int share(int pin, boolean upper) {
        if (!isPin(pin)) {
            return UNKNOWN;
        }
        int shut = made.allPins() & ~now.open;
        if ((shut & 1 << pin) == 0) {
            return inLeastTerms(0, 1, upper);
        }
        int comers = Integer.bitCount(shut);
        return inLeastTerms(pairsBroughtInAllOrders(pin, shut, comers), FACTORIALS[comers], upper);
    }

    public int rests(int one, int other, int what) {
        int refusal = refusalOfTwo(one, other);
        if (refusal != 0) {
            return refusal;
        }
        if (what < 0 || what > 1) {
            return OUTSIDE;
        }
        reckonGains(one, other);
        int found = 0;
        int first = NONE;
        for (int mine = 0; mine < CHOICES; mine++) {
            for (int yours = 0; yours < CHOICES; yours++) {
                if (isAtRest(mine, yours)) {
                    first = found == 0 ? 10 * mine + yours : first;
                    found++;
                }
            }
        }
        return what == 0 ? found : first;
    }

    public int gives(int one, int other, int x, boolean upper) {
        int refusal = refusalOfTwo(one, other);
        if (refusal != 0) {
            return refusal;
        }
        if (x < 0 || x > 10) {
            return OUTSIDE;
        }
        int shut = made.allPins() & ~now.open;
        long whole = power(10, Integer.bitCount(shut));
        long together = 0;
        for (int given = 0; given <= made.allPins(); given++) {
            if ((given & ~shut) == 0 && made.areTogether(one, other, now.open | given)) {
                int holding = Integer.bitCount(shut & ~given);
                together += power(x, Integer.bitCount(given)) * power(10 - x, holding);
            }
        }
        return inLeastTerms(together, whole, upper);
    }

    public long seed(long v) {
        long was = seedNow;
        seedNow = v;
        return was;
    }

    public int seasons(int m) {
        if (m < 1 || m > MOST_SEASONS) {
            return OUTSIDE;
        }
        thought.become(now);
        int openInAll = 0;
        for (int season = 0; season < m; season++) {
            seedNow = seedNow * 6364136223846793005L + 1442695040888963407L;
            passSeason((int) (seedNow >>> 33) & 31);
            openInAll += Integer.bitCount(thought.open);
        }
        return openInAll;
    }

    // ---- slots

    public int keep(int slot) {
        if (slot < 0 || slot >= SLOTS) {
            return UNKNOWN;
        }
        kept[slot].become(now);
        isKept[slot] = true;
        return now.dayNumber;
    }

    public int again(int slot) {
        if (slot < 0 || slot >= SLOTS) {
            return UNKNOWN;
        }
        if (!isKept[slot]) {
            return STATE;
        }
        now.become(kept[slot]);
        acts.forget();
        return now.dayNumber;
    }

    public int count(int what) {
        switch (what) {
            case 0: return script.length;
            case 1: return made.pins;
            case 2: return made.pulls;
            case 3: return made.deeds;
            case 4: return now.dayNumber;
            case 5: return now.open;
            case 6: return made.doable(now.open);
            case 7: return made.pairsTogether(now.open);
            case 8: return now.wearOfAll();
            case 9: return acts.length;
            case 10: return tried.length;
            default: return OUTSIDE;
        }
    }

    // ---- what the calls share

    private static boolean isThing(int thing) {
        return thing >= 0 && thing < THINGS;
    }

    private boolean isPin(int pin) {
        return pin >= 0 && pin < made.pins;
    }

    /** UNKNOWN or OUTSIDE for two things that are asked about as two; 0 if they may be. */
    private static int refusalOfTwo(int one, int other) {
        if (!isThing(one) || !isThing(other)) {
            return UNKNOWN;
        }
        return one == other ? OUTSIDE : 0;
    }

    /** Of shut pins alone, and fewer: cuts are looked at from the least on, so one of like many is no better. */
    private boolean isBetterCut(int cut, int best) {
        boolean isFewer = best == NONE || Integer.bitCount(cut) < Integer.bitCount(best);
        return isFewer && (cut & now.open) == 0;
    }

    /** The least thing at which a tug of n parts the two; NONE. */
    private int firstThatParts(int one, int other, int n) {
        for (int thing = 0; thing < THINGS; thing++) {
            thought.become(now);
            forces.pullAt(thought, thing, n);
            if (!made.areTogether(one, other, thought.open)) {
                return thing;
            }
        }
        return NONE;
    }

    /** Does in thought what is told, or looks whether it is so; false if it can not be. */
    private boolean comesTrue(int kind, int first, int second) {
        switch (kind) {
            case 0:
                if (first != 0 || second != 0) {
                    return false;
                }
                forces.passDay(thought);
                return true;
            case 1:
                if (!isThing(first) || second == 0) {
                    return false;
                }
                forces.pullAt(thought, first, second);
                return true;
            case 2:
                return first == 0 && closesInThought(second);
            case 3:
                return first == 0 && unpinsInThought(second);
            case 4:
                return isThing(first) && isThing(second) && made.areTogether(first, second, thought.open);
            case 5:
                return first == 0 && second < made.deeds && (made.doable(thought.open) & 1 << second) != 0;
            default:
                return false;
        }
    }

    private boolean closesInThought(int pin) {
        if (!isPin(pin) || !thought.isOpen(pin)) {
            return false;
        }
        thought.close(pin);
        return true;
    }

    private boolean unpinsInThought(int pin) {
        if (!isPin(pin) || thought.isOpen(pin)) {
            return false;
        }
        thought.unpin(pin);
        return true;
    }

    /** What falls out of season: a hand's doing that can't be done is left undone. */
    private void passSeason(int lot) {
        if (lot <= 5) {
            forces.pullAt(thought, lot, 4);
        } else if (lot <= 12) {
            closesInThought(lot - 6);
        } else if (lot <= 19) {
            unpinsInThought(lot - 13);
        } else {
            forces.passDay(thought);
        }
    }

    /** The pairs that a shut pin brings together as it comes, summed over all orders of the comers. */
    private long pairsBroughtInAllOrders(int pin, int shut, int comers) {
        int others = shut & ~(1 << pin);
        long sum = 0;
        for (int before = 0; before <= made.allPins(); before++) {
            if ((before & ~others) == 0) {
                int came = Integer.bitCount(before);
                int orders = FACTORIALS[came] * FACTORIALS[comers - 1 - came];
                int pairsThen = made.pairsTogether(~(before | 1 << pin));
                sum += (long) orders * (pairsThen - made.pairsTogether(~before));
            }
        }
        return sum;
    }

    private void reckonGains(int one, int other) {
        for (int mine = 0; mine < CHOICES; mine++) {
            for (int yours = 0; yours < CHOICES; yours++) {
                thought.become(now);
                forces.clear();
                forces.burden(one, 3 * mine);
                forces.burden(other, 3 * yours);
                forces.ping(thought);
                int parted = made.areTogether(one, other, thought.open) ? 0 : 4;
                oneGains[CHOICES * mine + yours] = parted - mine - priceOfBeingAlone(one);
                otherGains[CHOICES * mine + yours] = parted - yours - priceOfBeingAlone(other);
            }
        }
    }

    private int priceOfBeingAlone(int thing) {
        return made.reach(thing, thought.open) == 1 << thing ? 2 : 0;
    }

    private boolean isAtRest(int mine, int yours) {
        int here = CHOICES * mine + yours;
        for (int instead = 0; instead < CHOICES; instead++) {
            if (oneGains[CHOICES * instead + yours] > oneGains[here]
                    || otherGains[CHOICES * mine + instead] > otherGains[here]) {
                return false;
            }
        }
        return true;
    }

    private static long power(int base, int exponent) {
        long product = 1;
        for (int factor = 0; factor < exponent; factor++) {
            product *= base;
        }
        return product;
    }

    private static int inLeastTerms(long above, long below, boolean upper) {
        long divisor = commonDivisor(above, below);
        return (int) ((upper ? above : below) / divisor);
    }

    /** Of two numbers that are 0 or more; 1 at least, so that it can always divide. */
    private static long commonDivisor(long a, long b) {
        long greater = a;
        long lesser = b;
        for (int step = 0; step < 200 && lesser != 0; step++) {
            long rest = greater % lesser;
            greater = lesser;
            lesser = rest;
        }
        return Math.max(1, greater);
    }

    /** The letters as they are told. */
    private static final class Script {
        final int[] letters = new int[MOST_LETTERS];
        int length = 0;

        void add(int letter) {
            if (length >= 0 && length < MOST_LETTERS) {
                letters[length] = letter;
                length++;
            }
        }

        /** The figure at a place; -1 where there is none. */
        int figure(int place) {
            if (place < 0 || place >= length) {
                return -1;
            }
            int letter = letters[place];
            return letter >= '0' && letter <= '9' ? letter - '0' : -1;
        }

        /** How many letters the part has that this letter begins; 0 if it begins none. */
        static int sizeOfPart(int letter) {
            if (letter == 'N') {
                return 5;
            }
            return letter == 'W' || letter == 'D' ? 3 : 0;
        }

        static int mostOf(int letter) {
            if (letter == 'N') {
                return MOST_PINS;
            }
            return letter == 'W' ? MOST_PULLS : MOST_DEEDS;
        }

        int firstFault() {
            if (length == 0 || letters[0] != 'S') {
                return 0;
            }
            int start = 1;
            for (int place = 1; place < length; place++) {
                if (place == start ? !canBegin(place) : !canGoOn(start, place)) {
                    return place;
                }
                if (place - start + 1 == sizeOfPart(letters[start])) {
                    start = place + 1;
                }
            }
            return start == length ? NONE : length;
        }

        /** Whether a part may begin here: letters of parts stand nowhere else, so they tell how many there are. */
        private boolean canBegin(int place) {
            int letter = letters[place];
            if (sizeOfPart(letter) == 0) {
                return false;
            }
            int before = 0;
            for (int back = 1; back < place; back++) {
                before += letters[back] == letter ? 1 : 0;
            }
            return before < mostOf(letter);
        }

        private boolean canGoOn(int start, int place) {
            int figure = figure(place);
            if (figure < 0) {
                return false;
            }
            boolean isPull = letters[start] == 'W';
            switch (place - start) {
                case 1: return figure < THINGS;
                case 2: return isPull || figure < THINGS && figure != figure(start + 1);
                case 3: return true;
                default: return figure <= SPRUNG;
            }
        }
    }

    /** Pins, pulls and deeds as they were told. */
    private static final class Town {
        int pins = 0;
        final int[] one = new int[MOST_PINS];
        final int[] other = new int[MOST_PINS];
        final int[] strength = new int[MOST_PINS];
        final int[] kind = new int[MOST_PINS];
        int pulls = 0;
        final int[] pullThing = new int[MOST_PULLS];
        final int[] pullLoad = new int[MOST_PULLS];
        int deeds = 0;
        final int[] deedOne = new int[MOST_DEEDS];
        final int[] deedOther = new int[MOST_DEEDS];

        /** Of a text that has no fault. */
        void readFrom(Script script) {
            pins = 0;
            pulls = 0;
            deeds = 0;
            for (int place = 1; place < script.length; place++) {
                int letter = script.letters[place];
                if (letter == 'N' && pins < MOST_PINS) {
                    addPin(script, place);
                } else if (letter == 'W' && pulls < MOST_PULLS) {
                    pullThing[pulls] = script.figure(place + 1);
                    pullLoad[pulls] = script.figure(place + 2);
                    pulls++;
                } else if (letter == 'D' && deeds < MOST_DEEDS) {
                    deedOne[deeds] = script.figure(place + 1);
                    deedOther[deeds] = script.figure(place + 2);
                    deeds++;
                }
            }
        }

        private void addPin(Script script, int place) {
            one[pins] = script.figure(place + 1);
            other[pins] = script.figure(place + 2);
            strength[pins] = script.figure(place + 3);
            kind[pins] = script.figure(place + 4);
            pins++;
        }

        /** The bits of all pins. */
        int allPins() {
            return (1 << pins) - 1;
        }

        int holds(int pin, int wear) {
            if (kind[pin] == BRASS) {
                return strength[pin] + 3;
            }
            return kind[pin] == RUSTY ? Math.max(0, strength[pin] - wear) : strength[pin];
        }

        int endsOf(int pin) {
            return 1 << one[pin] | 1 << other[pin];
        }

        /** The things that are together with one while these pins are open. */
        int reach(int thing, int open) {
            int reached = 1 << thing;
            // no thing is more pins away than there are other things
            for (int round = 1; round < THINGS; round++) {
                for (int pin = 0; pin < pins; pin++) {
                    if ((open & 1 << pin) == 0 && (reached & endsOf(pin)) != 0) {
                        reached |= endsOf(pin);
                    }
                }
            }
            return reached;
        }

        boolean areTogether(int thing, int another, int open) {
            return (reach(thing, open) & 1 << another) != 0;
        }

        int pairsTogether(int open) {
            int counted = 0;
            for (int thing = 0; thing < THINGS; thing++) {
                counted += Integer.bitCount(reach(thing, open)) - 1;
            }
            // each pair was met from both sides
            return counted / 2;
        }

        int doable(int open) {
            int bits = 0;
            for (int deed = 0; deed < deeds; deed++) {
                if (!areTogether(deedOne[deed], deedOther[deed], open)) {
                    bits |= 1 << deed;
                }
            }
            return bits;
        }
    }

    /** What changes in a town: which pins are open, how they are worn, what day it is. */
    private static final class Plight {
        int open = 0;
        final int[] wear = new int[MOST_PINS];
        int dayNumber = 0;

        void begin() {
            open = 0;
            dayNumber = 0;
            for (int pin = 0; pin < MOST_PINS; pin++) {
                wear[pin] = 0;
            }
        }

        void become(Plight like) {
            open = like.open;
            dayNumber = like.dayNumber;
            for (int pin = 0; pin < MOST_PINS; pin++) {
                wear[pin] = like.wear[pin];
            }
        }

        boolean isOpen(int pin) {
            return (open & 1 << pin) != 0;
        }

        void close(int pin) {
            open &= ~(1 << pin);
            wear[pin] = 0;
        }

        void unpin(int pin) {
            open |= 1 << pin;
        }

        int wearOfAll() {
            int sum = 0;
            for (int pin = 0; pin < MOST_PINS; pin++) {
                sum += wear[pin];
            }
            return sum;
        }
    }

    /** Loads on things, and what they do to a plight. */
    private static final class Forces {
        private final Town town;
        private final int[] loads = new int[THINGS];

        Forces(Town town) {
            this.town = town;
        }

        void clear() {
            for (int thing = 0; thing < THINGS; thing++) {
                loads[thing] = 0;
            }
        }

        void burden(int thing, int load) {
            loads[thing] += load;
        }

        void burdenEnds(int pin) {
            loads[town.one[pin]]++;
            loads[town.other[pin]]++;
        }

        private int loadOf(int pin) {
            return loads[town.one[pin]] + loads[town.other[pin]];
        }

        /** Pings by the loads as they are, till there is none: how many pins gave. */
        int ping(Plight plight) {
            int before = Integer.bitCount(plight.open);
            // each round but the last opens a pin
            for (int round = 0; round <= town.pins; round++) {
                int giving = givingNow(plight);
                plight.open |= giving;
                for (int pin = 0; pin < town.pins; pin++) {
                    if ((giving & 1 << pin) != 0) {
                        burdenEnds(pin);
                    }
                }
            }
            return Integer.bitCount(plight.open) - before;
        }

        private int givingNow(Plight plight) {
            int giving = 0;
            for (int pin = 0; pin < town.pins; pin++) {
                if (!plight.isOpen(pin) && loadOf(pin) > town.holds(pin, plight.wear[pin])) {
                    giving |= 1 << pin;
                }
            }
            return giving;
        }

        int pullAt(Plight plight, int thing, int n) {
            clear();
            burden(thing, n);
            return ping(plight);
        }

        int passDay(Plight plight) {
            springShut(plight);
            clear();
            if (town.pulls > 0) {
                int pull = Math.floorMod(plight.dayNumber, town.pulls);
                burden(town.pullThing[pull], town.pullLoad[pull]);
            }
            int gave = ping(plight);
            wearDown(plight);
            plight.dayNumber++;
            return gave;
        }

        private void springShut(Plight plight) {
            for (int pin = 0; pin < town.pins; pin++) {
                if (town.kind[pin] == SPRUNG) {
                    plight.open &= ~(1 << pin);
                }
            }
        }

        private void wearDown(Plight plight) {
            for (int pin = 0; pin < town.pins; pin++) {
                if (town.kind[pin] == RUSTY && !plight.isOpen(pin) && loadOf(pin) >= 1) {
                    plight.wear[pin]++;
                }
            }
        }
    }

    /** How it was before each of the last acts, the latest on top; a ring, so that the first is forgotten. */
    private static final class Acts {
        private final Plight[] befores = new Plight[MOST_ACTS];
        private int top = 0;
        int length = 0;

        Acts() {
            for (int act = 0; act < MOST_ACTS; act++) {
                befores[act] = new Plight();
            }
        }

        void forget() {
            length = 0;
        }

        void remember(Plight before) {
            befores[top].become(before);
            top = (top + 1) % MOST_ACTS;
            length = Math.min(MOST_ACTS, length + 1);
        }

        void takeBack(Plight plight) {
            if (length > 0) {
                top = (top + MOST_ACTS - 1) % MOST_ACTS;
                plight.become(befores[top]);
                length--;
            }
        }
    }

    /** What was tried on the unknown pin. */
    private static final class Trials {
        private final int[] load = new int[MOST_TRIALS];
        private final boolean[] gave = new boolean[MOST_TRIALS];
        int length = 0;

        void add(int p, boolean itGave) {
            if (length >= 0 && length < MOST_TRIALS) {
                load[length] = p;
                gave[length] = itGave;
                length++;
            }
        }

        boolean agreeWith(int kind, int strength) {
            int held = kind == BRASS ? strength + 3 : strength;
            for (int i = 0; i < length; i++) {
                if (load[i] > held != gave[i]) {
                    return false;
                }
            }
            return true;
        }
    }
}
