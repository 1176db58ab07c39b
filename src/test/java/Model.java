import java.math.BigInteger;
import java.util.ArrayList;
import java.util.HashMap;
import java.util.List;
import java.util.Map;
import java.util.TreeMap;

/** The document again, by other and slower ways than the class, to be compared with it. */
final class Model {
    static final int NONE = -6, UNKNOWN = -1, OUTSIDE = -2, STATE = -3, FULL = -4, NO = -5;

    static final class Person {
        int inclined, drifts;
        Integer by = null;

        Person(int inclined, int drifts) {
            this.inclined = inclined;
            this.drifts = drifts;
        }

        Person copy() {
            Person p = new Person(inclined, drifts);
            p.by = by;
            return p;
        }
    }

    static final class World {
        TreeMap<Integer, Person> people = new TreeMap<>();
        int horn = 0, year = 0;
        List<int[]> chalks = new ArrayList<>();

        World copy() {
            World w = new World();
            people.forEach((k, p) -> w.people.put(k, p.copy()));
            w.horn = horn;
            w.year = year;
            w.chalks.addAll(chalks);
            return w;
        }

        int pairs() {
            return (int) people.values().stream().filter(p -> p.by != null).count() / 2;
        }

        void part(int one) {
            Person p = people.get(one);
            if (p != null && p.by != null) {
                people.get(p.by).by = null;
                p.by = null;
            }
        }

        int reason(String act) {
            if (act.equals(".")) {
                return year == 999 ? 4 : 0;
            }
            int one = act.charAt(0) - 'A';
            char kind = act.charAt(1);
            Person p = people.get(one);
            if (kind == '&') {
                int two = act.charAt(2) - 'A';
                Person q = people.get(two);
                if (p == null || q == null) {
                    return 1;
                }
                return one == two ? 2 : p.by != null || q.by != null ? 3 : 0;
            }
            if (p == null) {
                return 1;
            }
            return kind == '/' && p.by == null ? 3 : 0;
        }

        void perform(String act) {
            if (act.equals(".")) {
                passYear();
                return;
            }
            int one = act.charAt(0) - 'A';
            Person p = people.get(one);
            switch (act.charAt(1)) {
                case '+' -> p.inclined = (p.inclined + act.charAt(2) - '0') % 180;
                case '-' -> p.inclined = (p.inclined + 180 - (act.charAt(2) - '0')) % 180;
                case '&' -> {
                    int two = act.charAt(2) - 'A';
                    p.by = two;
                    people.get(two).by = one;
                }
                case '/' -> part(one);
                default -> { }
            }
        }

        void passYear() {
            Map<Integer, Integer> then = new HashMap<>();
            for (int one : people.keySet()) {
                Person p = people.get(one);
                int goes = p.drifts;
                if (p.by != null) {
                    int other = people.get(p.by).inclined;
                    int up = 0;
                    while ((p.inclined + up) % 180 != other) {
                        up++;
                    }
                    int down = 0;
                    while ((p.inclined - down + 180) % 180 != other) {
                        down++;
                    }
                    if (up != 0) {
                        goes += up <= down ? 1 : -1;
                    }
                }
                then.put(one, (p.inclined + goes + 1800) % 180);
            }
            then.forEach((one, inclined) -> people.get(one).inclined = inclined);
            year++;
            if (year % 2 == 0) {
                horn = Math.min(9, horn + 1);
            }
        }
    }

    static final class Outcome {
        World world;
        int acts, bad = NONE, why = NONE, wrongAct = NONE, wrongWho = NONE;
        Map<Integer, Integer> chalked = new HashMap<>();
    }

    World now = new World();
    World[] images = new World[2];
    String pad = "";

    private Person at(int one) {
        return now.people.get(one);
    }

    private static boolean in(int x, int low, int high) {
        return low <= x && x <= high;
    }

    int one(int one, int inclined, int drifts) {
        if (!in(one, 0, 8)) {
            return UNKNOWN;
        }
        if (!in(inclined, 0, 179) || !in(drifts, -9, 9)) {
            return OUTSIDE;
        }
        now.part(one);
        now.people.put(one, new Person(inclined, drifts));
        return now.people.size();
    }

    int pair(int a, int b, boolean is) {
        if (at(a) == null || at(b) == null || a == b) {
            return UNKNOWN;
        }
        boolean sit = at(a).by != null && at(a).by == b;
        if (is ? at(a).by != null || at(b).by != null : !sit) {
            return STATE;
        }
        at(a).by = is ? b : null;
        at(b).by = is ? a : null;
        return now.pairs();
    }

    int horn(int v) {
        if (!in(v, 0, 9)) {
            return OUTSIDE;
        }
        int was = now.horn;
        now.horn = v;
        return was;
    }

    int say(int sign) {
        if (!in(sign, 33, 126)) {
            return OUTSIDE;
        }
        if (pad.length() == 60) {
            return FULL;
        }
        pad += (char) sign;
        return pad.length();
    }

    int wipe() {
        int were = pad.length();
        pad = "";
        return were;
    }

    private static final String ACT = "(?:\\.|[A-I](?:[+-][1-9]|&[A-I]|[/:?]))";

    int fault() {
        if (pad.matches(ACT + "*")) {
            return NONE;
        }
        for (int n = 1; n <= pad.length(); n++) {
            if (!pad.substring(0, n).matches(ACT + "*(?:[A-I][+&-]?)?")) {
                return n - 1;
            }
        }
        return pad.length();
    }

    private List<String> acts() {
        List<String> acts = new ArrayList<>();
        var found = java.util.regex.Pattern.compile(ACT).matcher(pad);
        while (found.find()) {
            acts.add(found.group());
        }
        return acts;
    }

    private Outcome outcome() {
        Outcome o = new Outcome();
        o.world = now.copy();
        for (String act : acts()) {
            int why = o.world.reason(act);
            if (why != 0) {
                o.bad = o.acts;
                o.why = why;
                return o;
            }
            if (act.endsWith(":") || act.endsWith("?")) {
                int who = act.charAt(0) - 'A';
                int inclined = o.world.people.get(who).inclined;
                int c = inclined + o.world.horn;
                c = ((act.endsWith("?") ? 180 - c : c) + 360) % 180;
                o.chalked.put(who, c);
                if (c != inclined && o.wrongAct == NONE) {
                    o.wrongAct = o.acts;
                    o.wrongWho = who;
                }
            }
            o.world.perform(act);
            o.acts++;
        }
        return o;
    }

    int judge(int what) {
        if (!in(what, 0, 1)) {
            return OUTSIDE;
        }
        if (fault() != NONE) {
            return NO;
        }
        return what == 0 ? outcome().bad : outcome().why;
    }

    private boolean refused() {
        return fault() != NONE || outcome().bad != NONE;
    }

    int done() {
        if (refused()) {
            return NO;
        }
        Outcome o = outcome();
        now = o.world;
        pad = "";
        return o.acts;
    }

    int behind(int one, int what) {
        if (at(one) == null) {
            return UNKNOWN;
        }
        if (!in(what, 0, 2)) {
            return OUTSIDE;
        }
        if (refused()) {
            return NO;
        }
        Outcome o = outcome();
        Person p = o.world.people.get(one);
        return what == 0 ? p.inclined : what == 1 ? p.by == null ? NONE : p.by : o.chalked.getOrDefault(one, NONE);
    }

    int then(int what) {
        if (!in(what, 0, 4)) {
            return OUTSIDE;
        }
        if (refused()) {
            return NO;
        }
        Outcome o = outcome();
        return new int[] {o.world.horn, o.world.year, o.world.pairs(), o.wrongAct, o.wrongWho}[what];
    }

    private static int between(int x, int y) {
        for (int d = 0; ; d++) {
            if ((x + d) % 180 == y || (y + d) % 180 == x) {
                return d;
            }
        }
    }

    int apart(int a, int b) {
        return at(a) == null || at(b) == null ? UNKNOWN : between(at(a).inclined, at(b).inclined);
    }

    private static List<Integer> triangles(World w) {
        List<Integer> sets = new ArrayList<>();
        for (int a : w.people.keySet()) {
            for (int b : w.people.tailMap(a, false).keySet()) {
                for (int c : w.people.tailMap(b, false).keySet()) {
                    int x = w.people.get(a).inclined, y = w.people.get(b).inclined, z = w.people.get(c).inclined;
                    if (between(x, y) >= 20 && between(x, z) >= 20 && between(y, z) >= 20) {
                        sets.add(1 << a | 1 << b | 1 << c);
                    }
                }
            }
        }
        return sets;
    }

    int triangles(int what) {
        if (!in(what, 0, 1)) {
            return OUTSIDE;
        }
        List<Integer> sets = triangles(now);
        return what == 0 ? sets.size() : sets.stream().min(Integer::compare).orElse(NONE);
    }

    /** By adding a layer of inclines for each turn, from where he is. */
    private static int fewest(int from, int to, int[] by) {
        boolean[] reached = new boolean[180];
        reached[from] = true;
        for (int turns = 0; turns <= 180; turns++) {
            if (reached[to]) {
                return turns;
            }
            boolean[] next = reached.clone();
            for (int x = 0; x < 180; x++) {
                if (reached[x]) {
                    for (int d : by) {
                        next[(x + d) % 180] = true;
                        next[(x + 180 - d) % 180] = true;
                    }
                }
            }
            reached = next;
        }
        return NONE;
    }

    int bring(int one, int to, int a, int b, int c, int what) {
        if (at(one) == null) {
            return UNKNOWN;
        }
        if (!in(to, 0, 179) || !in(a, 1, 179) || !in(b, 1, 179) || !in(c, 1, 179) || !in(what, 0, 1)) {
            return OUTSIDE;
        }
        int[] by = {a, b, c};
        int from = at(one).inclined;
        int count = fewest(from, to, by);
        if (what == 0) {
            return count;
        }
        if (count > 0) {
            for (int turn = 0; turn < 6; turn++) {
                int d = turn < 3 ? by[turn] : 180 - by[turn - 3];
                if (fewest((from + d) % 180, to, by) == count - 1) {
                    return turn;
                }
            }
        }
        return NONE;
    }

    int lean(int what) {
        if (!in(what, 0, 1)) {
            return OUTSIDE;
        }
        int best = -1, least = 1 << 20;
        for (int p = 179; p >= 0; p--) {
            int sum = 0;
            for (Person x : now.people.values()) {
                sum += between(p, x.inclined);
            }
            if (sum <= least) {
                least = sum;
                best = p;
            }
        }
        return what == 0 ? best : least;
    }

    int bisect(int what) {
        if (!in(what, 0, 1)) {
            return OUTSIDE;
        }
        List<Integer> all = new ArrayList<>(now.people.keySet());
        int best = 1 << 20, bestBits = 1 << 20;
        for (int choice = 0; choice < 1 << all.size(); choice++) {
            int bits = 0, sum = 0, heads = Integer.bitCount(choice);
            if (Math.abs(all.size() - 2 * heads) > 1 || !all.isEmpty() && choice % 2 == 0) {
                continue;
            }
            for (int i = 0; i < all.size(); i++) {
                bits |= (choice >> i & 1) << all.get(i);
                for (int j = i + 1; j < all.size(); j++) {
                    if ((choice >> i & 1) == (choice >> j & 1)) {
                        sum += between(at(all.get(i)).inclined, at(all.get(j)).inclined);
                    }
                }
            }
            if (sum < best || sum == best && bits < bestBits) {
                best = sum;
                bestBits = bits;
            }
        }
        return what == 0 ? best : bestBits;
    }

    int meet(int a, int b) {
        if (at(a) == null || at(b) == null) {
            return UNKNOWN;
        }
        int x = at(a).inclined, y = at(b).inclined;
        for (int years = 0; years <= 359; years++) {
            if (x == y) {
                return years;
            }
            x = (x + at(a).drifts + 180) % 180;
            y = (y + at(b).drifts + 180) % 180;
        }
        return NONE;
    }

    int chalk(int year, int c) {
        if (!in(year, 0, 60) || !in(c, 0, 179)) {
            return OUTSIDE;
        }
        if (now.chalks.size() == 8) {
            return FULL;
        }
        now.chalks.add(new int[] {year, c});
        return now.chalks.size();
    }

    int forget() {
        int were = now.chalks.size();
        now.chalks.clear();
        return were;
    }

    private static int inclinedIn(int b, int d, int year) {
        int x = b;
        for (int i = 0; i < year; i++) {
            x = (x + d + 180) % 180;
        }
        return x;
    }

    private List<Integer> fits(int w) {
        List<Integer> fits = new ArrayList<>();
        for (int code = 0; code < 3600; code++) {
            int b = code / 20, d = code % 20 - 9;
            if (d > 9) {
                continue;
            }
            int right = 0, wrong = 0;
            for (int[] chalk : now.chalks) {
                int x = inclinedIn(b, d, chalk[0]);
                if (x == chalk[1]) {
                    right++;
                } else if ((x + chalk[1]) % 180 == 0) {
                    wrong++;
                }
            }
            if (right + wrong == now.chalks.size() && wrong <= w) {
                fits.add(code);
            }
        }
        return fits;
    }

    int was(int w, int i) {
        if (!in(w, 0, 2)) {
            return OUTSIDE;
        }
        List<Integer> fits = fits(w);
        return i == -1 ? fits.size() : in(i, 0, fits.size() - 1) ? fits.get(i) : NONE;
    }

    int ask(int what) {
        if (!in(what, 0, 1)) {
            return OUTSIDE;
        }
        List<Integer> fits = fits(0);
        if (fits.isEmpty()) {
            return NONE;
        }
        int best = 1 << 20, bestYear = -1;
        for (int year = 60; year >= 0; year--) {
            Map<Integer, Integer> left = new HashMap<>();
            for (int code : fits) {
                left.merge(inclinedIn(code / 20, code % 20 - 9, year), 1, Integer::sum);
            }
            int most = left.values().stream().max(Integer::compare).get();
            if (most <= best) {
                best = most;
                bestYear = year;
            }
        }
        return what == 0 ? bestYear : best;
    }

    private final Map<Integer, Integer> takes = new HashMap<>();

    private int winning(int n) {
        if (n == 0) {
            return NONE;
        }
        if (!takes.containsKey(n)) {
            int best = NONE;
            for (int take = n; take >= 1; take--) {
                boolean may = take == 1 || take == n / 2 || take == n / 3;
                if (may && winning(n - take) == NONE) {
                    best = take;
                }
            }
            takes.put(n, best);
        }
        return takes.get(n);
    }

    int take(int n, int what) {
        if (!in(n, 0, 179) || !in(what, 0, 1)) {
            return OUTSIDE;
        }
        return what == 1 ? winning(n) : winning(n) == NONE ? 0 : 1;
    }

    /** By how often he goes forwards and how often back: a sum of multinomial terms. */
    long cock(int m, int p, int a, int b, int n, int q, int part) {
        if (!in(m, 2, 12) || !in(p, 0, m - 1) || !in(q, 0, m - 1) || !in(a, 0, 10) || !in(b, 0, 10 - a)
                || !in(n, 0, 16) || !in(part, 0, 1)) {
            return -1_000_000_000_000_000_002L;
        }
        BigInteger upper = BigInteger.ZERO;
        for (int f = 0; f <= n; f++) {
            for (int k = 0; f + k <= n; k++) {
                if (Math.floorMod(p + f - k, m) == q) {
                    upper = upper.add(choose(n, f).multiply(choose(n - f, k)).multiply(BigInteger.valueOf(a).pow(f))
                            .multiply(BigInteger.valueOf(b).pow(k)).multiply(BigInteger.valueOf(10 - a - b).pow(n - f - k)));
                }
            }
        }
        BigInteger lower = BigInteger.TEN.pow(n);
        return (part == 0 ? upper : lower).divide(upper.gcd(lower)).longValueExact();
    }

    private static BigInteger choose(int n, int k) {
        BigInteger c = BigInteger.ONE;
        for (int i = 0; i < k; i++) {
            c = c.multiply(BigInteger.valueOf(n - i)).divide(BigInteger.valueOf(i + 1));
        }
        return c;
    }

    int book(int seed, int m, int what) {
        if (!in(seed, 0, 9999) || !in(m, 1, 99) || !in(what, 0, 2)) {
            return OUTSIDE;
        }
        World w = now.copy();
        long x = seed;
        for (int i = 0; i < m; i++) {
            x = (75 * x + 74) % 65537;
            char one = (char) ('A' + x % 9);
            long z = x / 72;
            String act = switch ((int) (x / 9 % 8)) {
                case 0, 1 -> one + "+" + (1 + z % 9);
                case 2 -> one + "-" + (1 + z % 9);
                case 3 -> one + "&" + (char) ('A' + z % 9);
                case 4 -> one + "/";
                default -> ".";
            };
            if (w.reason(act) == 0) {
                w.perform(act);
            }
        }
        int sum = w.people.values().stream().mapToInt(p -> p.inclined).sum();
        return what == 0 ? sum : what == 1 ? w.pairs() : triangles(w).size();
    }

    int image(int n) {
        if (!in(n, 0, 1)) {
            return OUTSIDE;
        }
        images[n] = now.copy();
        return 1;
    }

    int restore(int n) {
        if (!in(n, 0, 1)) {
            return OUTSIDE;
        }
        if (images[n] == null) {
            return STATE;
        }
        now = images[n].copy();
        return 1;
    }

    int told(int what) {
        if (in(what, 0, 5)) {
            int ones = now.people.keySet().stream().mapToInt(one -> 1 << one).sum();
            return new int[] {pad.length(), ones, now.horn, now.year, now.chalks.size(), now.pairs()}[what];
        }
        for (int one : now.people.keySet()) {
            Person p = at(one);
            if (what - 10 * (1 + one) == 0) {
                return p.inclined;
            }
            if (what - 10 * (1 + one) == 1) {
                return p.drifts + 9;
            }
            if (what - 10 * (1 + one) == 2) {
                return p.by == null ? NONE : p.by;
            }
        }
        return OUTSIDE;
    }
}
