import java.math.BigInteger;
import java.util.ArrayDeque;
import java.util.ArrayList;
import java.util.Deque;
import java.util.HashMap;
import java.util.List;
import java.util.Map;
import java.util.Set;
import java.util.TreeSet;
import java.util.function.Predicate;
import java.util.regex.Matcher;
import java.util.regex.Pattern;

/**
 * The document told a second time, with other means than the program (sets, maps, all orders one by one,
 * fractions by cases), so that a slip in one of the two shows as a difference.
 */
final class SafetyPinsModel {
    static final int UNKNOWN = -1, OUTSIDE = -2, STATE = -3, FULL = -4, NONE = -9;

    private record Pin(int a, int b, int s, int k) { }

    private record Pair(int x, int y) { }

    /** Which pins are open, how often each was worn, the day; never changed, always made anew. */
    private record Plight(Set<Integer> open, Map<Integer, Integer> wear, int day) {
        Plight copy() {
            return new Plight(new TreeSet<>(open), new HashMap<>(wear), day);
        }
    }

    private record Trial(int p, boolean gave) { }

    private static final Pattern TOWN =
        Pattern.compile("S(N([0-5])(?!\\2)[0-5][0-9][0-3]|W[0-5][0-9]|D([0-5])(?!\\3)[0-5])*", Pattern.DOTALL);

    private final StringBuilder text = new StringBuilder();
    private final List<Pin> pins = new ArrayList<>();
    private final List<Pair> pulls = new ArrayList<>();
    private final List<Pair> deeds = new ArrayList<>();
    private Plight now = new Plight(new TreeSet<>(), new HashMap<>(), 0);
    private final Deque<Plight> acts = new ArrayDeque<>();
    private final Map<Integer, Plight> slots = new HashMap<>();
    private final List<Trial> trials = new ArrayList<>();
    private long seed = 0;

    // ---- the town

    int write(int letter) {
        if (letter < 0 || letter > 255) return OUTSIDE;
        if (text.length() == 60) return FULL;
        text.append((char) letter);
        return text.length();
    }

    int wipe() {
        int was = text.length();
        text.delete(0, was);
        return was;
    }

    private static long times(String prefix, char sign) {
        return prefix.chars().filter(c -> c == sign).count();
    }

    private static boolean mayGoOn(String prefix) {
        Matcher m = TOWN.matcher(prefix);
        boolean fits = m.matches() || m.hitEnd();
        return fits && times(prefix, 'N') <= 7 && times(prefix, 'W') <= 4 && times(prefix, 'D') <= 3;
    }

    int fault() {
        for (int to = 1; to <= text.length(); to++) {
            if (!mayGoOn(text.substring(0, to))) return to - 1;
        }
        return TOWN.matcher(text).matches() ? NONE : text.length();
    }

    int town() {
        if (fault() != NONE) return STATE;
        pins.clear();
        pulls.clear();
        deeds.clear();
        Matcher m = Pattern.compile("N(.)(.)(.)(.)|W(.)(.)|D(.)(.)").matcher(text);
        while (m.find()) {
            if (m.group(1) != null) {
                pins.add(new Pin(number(m, 1), number(m, 2), number(m, 3), number(m, 4)));
            } else if (m.group(5) != null) {
                pulls.add(new Pair(number(m, 5), number(m, 6)));
            } else {
                deeds.add(new Pair(number(m, 7), number(m, 8)));
            }
        }
        now = new Plight(new TreeSet<>(), new HashMap<>(), 0);
        acts.clear();
        slots.clear();
        return Integer.parseInt("" + pins.size() + pulls.size() + deeds.size());
    }

    private static int number(Matcher m, int group) {
        return Integer.parseInt(m.group(group));
    }

    private int holds(Plight p, int i) {
        Pin pin = pins.get(i);
        return switch (pin.k()) {
            case 1 -> pin.s() + 3;
            case 2 -> Math.max(pin.s() - p.wear().getOrDefault(i, 0), 0);
            default -> pin.s();
        };
    }

    int pin(int i, int what) {
        if (i < 0 || i >= pins.size()) return UNKNOWN;
        if (what < 0 || what > 6) return OUTSIDE;
        Pin p = pins.get(i);
        List<Integer> all = List.of(p.a(), p.b(), p.s(), p.k(), holds(now, i),
            now.wear().getOrDefault(i, 0), now.open().contains(i) ? 1 : 0);
        return all.get(what);
    }

    private Set<Integer> company(int thing, Set<Integer> open) {
        Set<Integer> seen = new TreeSet<>();
        Deque<Integer> todo = new ArrayDeque<>(List.of(thing));
        while (!todo.isEmpty()) {
            int t = todo.pop();
            if (!seen.add(t)) continue;
            for (int i = 0; i < pins.size(); i++) {
                if (open.contains(i)) continue;
                if (pins.get(i).a() == t) todo.push(pins.get(i).b());
                if (pins.get(i).b() == t) todo.push(pins.get(i).a());
            }
        }
        return seen;
    }

    private boolean together(int x, int y, Set<Integer> open) {
        return company(x, open).contains(y);
    }

    private static int bits(Set<Integer> set) {
        return set.stream().mapToInt(i -> 1 << i).sum();
    }

    private static Set<Integer> set(int bits) {
        Set<Integer> set = new TreeSet<>();
        for (int i = 0; i < 31; i++) if ((bits >> i) % 2 == 1) set.add(i);
        return set;
    }

    int with(int thing) {
        if (thing < 0 || thing > 5) return UNKNOWN;
        return bits(company(thing, now.open()));
    }

    // ---- acts

    /** Pins that are open behind pings; the loads are changed. */
    private Set<Integer> pings(Plight p, int[] loads) {
        Set<Integer> open = new TreeSet<>(p.open());
        while (true) {
            List<Integer> giving = new ArrayList<>();
            for (int i = 0; i < pins.size(); i++) {
                Pin pin = pins.get(i);
                if (!open.contains(i) && loads[pin.a()] + loads[pin.b()] > holds(p, i)) giving.add(i);
            }
            if (giving.isEmpty()) return open;
            for (int i : giving) {
                open.add(i);
                loads[pins.get(i).a()] += 1;
                loads[pins.get(i).b()] += 1;
            }
        }
    }

    private Plight dayOf(Plight p, int[] gave) {
        Set<Integer> shutAgain = new TreeSet<>(p.open());
        shutAgain.removeIf(i -> pins.get(i).k() == 3);
        int[] loads = new int[6];
        if (!pulls.isEmpty()) {
            Pair pull = pulls.get(p.day() % pulls.size());
            loads[pull.x()] = pull.y();
        }
        Plight start = new Plight(shutAgain, p.wear(), p.day());
        Set<Integer> open = pings(start, loads);
        gave[0] = open.size() - shutAgain.size();
        Map<Integer, Integer> wear = new HashMap<>(p.wear());
        for (int i = 0; i < pins.size(); i++) {
            Pin pin = pins.get(i);
            if (pin.k() == 2 && !open.contains(i) && loads[pin.a()] + loads[pin.b()] > 0) {
                wear.merge(i, 1, Integer::sum);
            }
        }
        return new Plight(open, wear, p.day() + 1);
    }

    private Plight tugOf(Plight p, int thing, int n) {
        int[] loads = new int[6];
        loads[thing] = n;
        return new Plight(pings(p, loads), p.wear(), p.day());
    }

    private static Plight shutOf(Plight p, int i) {
        Plight q = p.copy();
        q.open().remove(i);
        q.wear().remove(i);
        return q;
    }

    private static Plight openOf(Plight p, int i) {
        Plight q = p.copy();
        q.open().add(i);
        return q;
    }

    private void act(Plight behind) {
        acts.addLast(now);
        if (acts.size() > 14) acts.removeFirst();
        now = behind;
    }

    int day() {
        int[] gave = new int[1];
        act(dayOf(now, gave));
        return gave[0];
    }

    int tug(int thing, int n) {
        if (thing < 0 || thing > 5) return UNKNOWN;
        if (n < 1 || n > 9) return OUTSIDE;
        int were = now.open().size();
        act(tugOf(now, thing, n));
        return now.open().size() - were;
    }

    int shut(int i) {
        if (i < 0 || i >= pins.size()) return UNKNOWN;
        if (!now.open().contains(i)) return STATE;
        act(shutOf(now, i));
        return now.open().size();
    }

    int open(int i) {
        if (i < 0 || i >= pins.size()) return UNKNOWN;
        if (now.open().contains(i)) return STATE;
        act(openOf(now, i));
        return now.open().size();
    }

    int undo() {
        if (acts.isEmpty()) return STATE;
        now = acts.removeLast();
        return acts.size();
    }

    // ---- what gives, what holds

    int later(int n) {
        if (n < 0 || n > 20) return OUTSIDE;
        Plight p = now;
        for (int i = 0; i < n; i++) p = dayOf(p, new int[1]);
        return bits(p.open());
    }

    int lasts(int i) {
        if (i < 0 || i >= pins.size()) return UNKNOWN;
        if (now.open().contains(i)) return STATE;
        for (int n = 1; n <= 20; n++) {
            if (set(later(n)).contains(i)) return n;
        }
        return NONE;
    }

    int chain(int i) {
        if (i < 0 || i >= pins.size()) return UNKNOWN;
        if (now.open().contains(i)) return STATE;
        int[] loads = new int[6];
        loads[pins.get(i).a()] = 1;
        loads[pins.get(i).b()] = 1;
        Set<Integer> open = pings(openOf(now, i), loads);
        open.removeAll(now.open());
        return bits(open);
    }

    /** All sets of shut pins, fewer ones first, of like many the lesser first. */
    private int fewest(Predicate<Set<Integer>> isEnough) {
        for (int size = 0; size <= pins.size(); size++) {
            for (int cut = 0; cut < 1 << pins.size(); cut++) {
                Set<Integer> opened = set(cut);
                boolean allShut = opened.stream().noneMatch(now.open()::contains);
                if (opened.size() != size || !allShut) continue;
                Set<Integer> open = new TreeSet<>(now.open());
                open.addAll(opened);
                if (isEnough.test(open)) return cut;
            }
        }
        throw new IllegalStateException("no cut");
    }

    private static int two(int one, int other) {
        if (one < 0 || one > 5 || other < 0 || other > 5) return UNKNOWN;
        return one == other ? OUTSIDE : 0;
    }

    int cuts(int one, int other) {
        if (two(one, other) != 0) return two(one, other);
        return fewest(open -> !together(one, other, open));
    }

    int parts(int one, int other, int what) {
        if (two(one, other) != 0) return two(one, other);
        if (what != 0 && what != 1) return OUTSIDE;
        if (!together(one, other, now.open())) return what == 0 ? 0 : NONE;
        for (int n = 1; n <= 9; n++) {
            for (int thing = 0; thing < 6; thing++) {
                if (!together(one, other, tugOf(now, thing, n).open())) return what == 0 ? n : thing;
            }
        }
        return NONE;
    }

    private Set<Integer> doable(Set<Integer> open) {
        Set<Integer> can = new TreeSet<>();
        for (int d = 0; d < deeds.size(); d++) {
            if (!together(deeds.get(d).x(), deeds.get(d).y(), open)) can.add(d);
        }
        return can;
    }

    int letsGo(int wanted) {
        if (wanted < 0 || wanted > (1 << deeds.size()) - 1) return OUTSIDE;
        return fewest(open -> doable(open).containsAll(set(wanted)));
    }

    int judge(int n, long row) {
        if (n < 1 || n > 4) return OUTSIDE;
        if (row < 0 || Long.toString(row).length() > 3 * n) return OUTSIDE;
        String told = "0".repeat(3 * n - Long.toString(row).length()) + row;
        Plight p = now;
        for (int place = 0; place < n; place++) {
            p = judged(p, told.substring(3 * place, 3 * place + 3));
            if (p == null) return place;
        }
        return NONE;
    }

    private Plight judged(Plight p, String doing) {
        int x = doing.charAt(1) - '0';
        int y = doing.charAt(2) - '0';
        if (doing.equals("000")) return dayOf(p, new int[1]);
        if (doing.matches("1[0-5][1-9]")) return tugOf(p, x, y);
        if (doing.matches("20[0-6]") && p.open().contains(y)) return shutOf(p, y);
        if (doing.matches("30[0-6]") && y < pins.size() && !p.open().contains(y)) return openOf(p, y);
        if (doing.matches("4[0-5][0-5]") && together(x, y, p.open())) return p;
        if (doing.matches("50[0-2]") && doable(p.open()).contains(y)) return p;
        return null;
    }

    // ---- tried

    int trial(int p, int gave) {
        if (p < 0 || p > 12 || gave < 0 || gave > 1) return OUTSIDE;
        if (trials.size() == 6) return FULL;
        trials.add(new Trial(p, gave == 1));
        return trials.size();
    }

    int untry() {
        int was = trials.size();
        trials.clear();
        return was;
    }

    int which(int what) {
        if (what < 0 || what > 1) return OUTSIDE;
        List<Integer> fit = new ArrayList<>();
        for (int kind : new int[] {0, 1}) {
            for (int s = 0; s <= 9; s++) {
                int holds = s + 3 * kind;
                if (trials.stream().allMatch(t -> t.gave() == t.p() > holds)) fit.add(10 * kind + s);
            }
        }
        if (what == 0) return fit.size();
        return fit.isEmpty() ? NONE : fit.get(0);
    }

    // ---- shares, rests, chances

    private static int fraction(BigInteger above, BigInteger below, boolean upper) {
        BigInteger d = above.gcd(below);
        return (upper ? above : below).divide(d).intValueExact();
    }

    private int pairsByShut(Set<Integer> shut) {
        Set<Integer> open = new TreeSet<>();
        for (int i = 0; i < pins.size(); i++) if (!shut.contains(i)) open.add(i);
        int pairs = 0;
        for (int x = 0; x < 6; x++) for (int y = 0; y < x; y++) if (together(x, y, open)) pairs++;
        return pairs;
    }

    int share(int i, boolean upper) {
        if (i < 0 || i >= pins.size()) return UNKNOWN;
        if (now.open().contains(i)) return upper ? 0 : 1;
        List<Integer> coming = new ArrayList<>();
        for (int j = 0; j < pins.size(); j++) if (!now.open().contains(j)) coming.add(j);
        Map<Set<Integer>, Integer> known = new HashMap<>();
        long[] sumAndOrders = new long[2];
        allOrders(i, coming, new TreeSet<>(), known, sumAndOrders);
        return fraction(BigInteger.valueOf(sumAndOrders[0]), BigInteger.valueOf(sumAndOrders[1]), upper);
    }

    private void allOrders(int i, List<Integer> coming, Set<Integer> came, Map<Set<Integer>, Integer> known, long[] sum) {
        if (came.contains(i)) {
            long rest = 1;
            for (int f = 2; f <= coming.size(); f++) rest *= f;
            Set<Integer> before = new TreeSet<>(came);
            before.remove(i);
            int more = known.computeIfAbsent(new TreeSet<>(came), this::pairsByShut)
                - known.computeIfAbsent(before, this::pairsByShut);
            sum[0] += rest * more;
            sum[1] += rest;
            return;
        }
        for (int next : coming) {
            List<Integer> left = new ArrayList<>(coming);
            left.remove(Integer.valueOf(next));
            Set<Integer> then = new TreeSet<>(came);
            then.add(next);
            allOrders(i, left, then, known, sum);
        }
    }

    private int[] gains(int one, int other, int g, int h) {
        int[] loads = new int[6];
        loads[one] = 3 * g;
        loads[other] = 3 * h;
        Set<Integer> open = pings(now, loads);
        int base = together(one, other, open) ? 0 : 4;
        int aloneOne = company(one, open).size() == 1 ? 2 : 0;
        int aloneOther = company(other, open).size() == 1 ? 2 : 0;
        return new int[] {base - g - aloneOne, base - h - aloneOther};
    }

    int rests(int one, int other, int what) {
        if (two(one, other) != 0) return two(one, other);
        if (what != 0 && what != 1) return OUTSIDE;
        List<Integer> rests = new ArrayList<>();
        for (int pair : new int[] {0, 1, 2, 10, 11, 12, 20, 21, 22}) {
            int g = pair / 10;
            int h = pair % 10;
            int mostOne = Integer.MIN_VALUE;
            int mostOther = Integer.MIN_VALUE;
            for (int c = 0; c < 3; c++) {
                mostOne = Math.max(mostOne, gains(one, other, c, h)[0]);
                mostOther = Math.max(mostOther, gains(one, other, g, c)[1]);
            }
            int[] here = gains(one, other, g, h);
            if (here[0] == mostOne && here[1] == mostOther) rests.add(pair);
        }
        if (what == 0) return rests.size();
        return rests.isEmpty() ? NONE : rests.get(0);
    }

    int gives(int one, int other, int x, boolean upper) {
        if (two(one, other) != 0) return two(one, other);
        if (x < 0 || x > 10) return OUTSIDE;
        BigInteger cases = cases(one, other, x, 0, new TreeSet<>(now.open()));
        return fraction(cases, BigInteger.TEN.pow(pins.size()), upper);
    }

    /** Cases, of ten for each pin from this one on, in which the two are together. */
    private BigInteger cases(int one, int other, int x, int from, Set<Integer> open) {
        if (from == pins.size()) return together(one, other, open) ? BigInteger.ONE : BigInteger.ZERO;
        if (now.open().contains(from)) return BigInteger.TEN.multiply(cases(one, other, x, from + 1, open));
        BigInteger holding = cases(one, other, x, from + 1, open);
        Set<Integer> given = new TreeSet<>(open);
        given.add(from);
        BigInteger giving = cases(one, other, x, from + 1, given);
        return holding.multiply(BigInteger.valueOf(10 - x)).add(giving.multiply(BigInteger.valueOf(x)));
    }

    long seed(long v) {
        long was = seed;
        seed = v;
        return was;
    }

    int seasons(int m) {
        if (m < 1 || m > 30) return OUTSIDE;
        BigInteger whole = BigInteger.ONE.shiftLeft(64);
        Plight p = now;
        int sum = 0;
        for (int i = 0; i < m; i++) {
            BigInteger x = BigInteger.valueOf(seed).multiply(new BigInteger("6364136223846793005"))
                .add(new BigInteger("1442695040888963407")).mod(whole);
            seed = x.longValue();
            int lot = x.shiftRight(33).mod(BigInteger.valueOf(32)).intValue();
            p = seasonOf(p, lot);
            sum += p.open().size();
        }
        return sum;
    }

    private Plight seasonOf(Plight p, int lot) {
        if (lot < 6) return tugOf(p, lot, 4);
        if (lot < 13) return p.open().contains(lot - 6) ? shutOf(p, lot - 6) : p;
        if (lot < 20) return lot - 13 < pins.size() && !p.open().contains(lot - 13) ? openOf(p, lot - 13) : p;
        return dayOf(p, new int[1]);
    }

    // ---- slots

    int keep(int slot) {
        if (slot != 0 && slot != 1) return UNKNOWN;
        slots.put(slot, now);
        return now.day();
    }

    int again(int slot) {
        if (slot != 0 && slot != 1) return UNKNOWN;
        if (!slots.containsKey(slot)) return STATE;
        now = slots.get(slot);
        acts.clear();
        return now.day();
    }

    int count(int what) {
        return switch (what) {
            case 0 -> text.length();
            case 1 -> pins.size();
            case 2 -> pulls.size();
            case 3 -> deeds.size();
            case 4 -> now.day();
            case 5 -> bits(now.open());
            case 6 -> bits(doable(now.open()));
            case 7 -> {
                Set<Integer> shut = new TreeSet<>();
                for (int i = 0; i < pins.size(); i++) if (!now.open().contains(i)) shut.add(i);
                yield pairsByShut(shut);
            }
            case 8 -> now.wear().values().stream().mapToInt(i -> i).sum();
            case 9 -> acts.size();
            case 10 -> trials.size();
            default -> OUTSIDE;
        };
    }
}
