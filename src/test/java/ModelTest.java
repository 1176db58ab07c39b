import java.util.Random;

/** Runs of 512 calls each, by seeds, asked of the class and of the model. */
public final class ModelTest {
    private static final int RUNS = 200;
    private static final int CALLS = 512;
    private static final int LONGEST_STEP = 60;

    private final Random random;
    private final int run;
    private final HornCity city = new HornCity();
    private final Model model = new Model();
    private int calls = 0;

    private ModelTest(int run) {
        this.run = run;
        this.random = new Random(run);
    }

    public static void main(String[] args) {
        for (int run = 0; run < RUNS; run++) {
            new ModelTest(run).ask();
        }
        Due.finish("ModelTest");
    }

    private void ask() {
        int crowd = random.nextInt(10);
        for (int i = 0; i < crowd; i++) {
            one(random.nextInt(9), random.nextInt(180), random.nextInt(19) - 9);
        }
        while (calls < CALLS - LONGEST_STEP) {
            switch (random.nextInt(16)) {
                case 0, 1 -> people();
                case 2, 3, 4, 5, 6 -> text();
                case 7 -> images();
                case 8, 9 -> company();
                case 10 -> bring();
                case 11, 12 -> chalks();
                case 13 -> games();
                case 14 -> book();
                default -> tellAll();
            }
        }
        while (calls < CALLS) {
            int what = number(0, 99);
            due("told(" + what + ")", city.told(what), model.told(what));
        }
    }

    /** Mostly within low and high, now and then one of the ends, one too far out, or far out. */
    private int number(int low, int high) {
        switch (random.nextInt(24)) {
            case 0: return low;
            case 1: return high;
            case 2: return random.nextInt(4) == 0 ? low - 1 : low;
            case 3: return random.nextInt(4) == 0 ? high + 1 : high;
            case 4: return random.nextInt(16) == 0 ? random.nextInt() : high;
            default: return low + random.nextInt(high - low + 1);
        }
    }

    private void due(String call, long got, long want) {
        calls++;
        Due.due("run " + run + " call " + calls + " (pad " + model.pad + "): " + call, got, want);
    }

    private void one(int one, int inclined, int drifts) {
        due("one(" + one + ", " + inclined + ", " + drifts + ")",
                city.one(one, inclined, drifts), model.one(one, inclined, drifts));
    }

    private void people() {
        int a = number(0, 8), b = number(0, 8), v = number(0, 9);
        boolean is = random.nextInt(3) > 0;
        switch (random.nextInt(4)) {
            case 0 -> one(a, number(0, 179), number(-9, 9));
            case 1 -> due("horn(" + v + ")", city.horn(v), model.horn(v));
            default -> due("pair(" + a + ", " + b + ", " + is + ")", city.pair(a, b, is), model.pair(a, b, is));
        }
    }

    private String act() {
        String one = "" + (char) ('A' + random.nextInt(9));
        return switch (random.nextInt(11)) {
            case 0, 1 -> one + "+" + (1 + random.nextInt(9));
            case 2 -> one + "-" + (1 + random.nextInt(9));
            case 3, 4 -> one + "&" + (char) ('A' + random.nextInt(9));
            case 5 -> one + "/";
            case 6 -> one + ":";
            case 7 -> one + "?";
            default -> ".";
        };
    }

    private void text() {
        StringBuilder acts = new StringBuilder();
        boolean sensible = random.nextInt(3) > 0;
        for (int i = random.nextInt(9); i >= 0; i--) {
            String act = act();
            if (sensible) {
                String before = model.pad;
                model.pad = before + acts + act;
                boolean can = model.judge(0) == Model.NONE;
                model.pad = before;
                if (!can) {
                    continue;
                }
            }
            acts.append(act);
        }
        if (random.nextInt(6) == 0 && acts.length() > 0) {
            acts.setCharAt(random.nextInt(acts.length()), (char) (33 + random.nextInt(94)));
        }
        if (random.nextInt(6) == 0 && acts.length() > 0) {
            acts.setLength(acts.length() - 1);
        }
        for (int i = 0; i < acts.length(); i++) {
            int sign = random.nextInt(200) == 0 ? number(33, 126) : acts.charAt(i);
            due("say(" + sign + ")", city.say(sign), model.say(sign));
        }
        readText();
        if (random.nextInt(3) > 0) {
            due("done()", city.done(), model.done());
        }
        if (random.nextInt(2) > 0) {
            due("wipe()", city.wipe(), model.wipe());
        }
    }

    private void readText() {
        due("fault()", city.fault(), model.fault());
        int what = number(0, 1);
        due("judge(" + what + ")", city.judge(what), model.judge(what));
        for (int i = 0; i < 3; i++) {
            int one = number(0, 8), part = number(0, 2), of = number(0, 4);
            due("behind(" + one + ", " + part + ")", city.behind(one, part), model.behind(one, part));
            due("then(" + of + ")", city.then(of), model.then(of));
        }
    }

    private void images() {
        int n = number(0, 1);
        if (random.nextBoolean()) {
            due("image(" + n + ")", city.image(n), model.image(n));
        } else {
            due("restore(" + n + ")", city.restore(n), model.restore(n));
        }
    }

    private void company() {
        int a = number(0, 8), b = number(0, 8), what = number(0, 1);
        due("apart(" + a + ", " + b + ")", city.apart(a, b), model.apart(a, b));
        due("meet(" + a + ", " + b + ")", city.meet(a, b), model.meet(a, b));
        due("triangles(" + what + ")", city.triangles(what), model.triangles(what));
        due("lean(" + what + ")", city.lean(what), model.lean(what));
        due("bisect(" + what + ")", city.bisect(what), model.bisect(what));
    }

    private void bring() {
        int one = number(0, 8), to = number(0, 179);
        int most = random.nextBoolean() ? 179 : 12;
        int a = number(1, most), b = number(1, most), c = number(1, most);
        if (random.nextInt(3) == 0) {
            a *= 2;
            b *= 2;
            c *= 2;
        }
        int what = number(0, 1);
        due("bring(" + one + ", " + to + ", " + a + ", " + b + ", " + c + ", " + what + ")",
                city.bring(one, to, a, b, c, what), model.bring(one, to, a, b, c, what));
    }

    private void chalks() {
        if (random.nextInt(3) == 0) {
            due("forget()", city.forget(), model.forget());
        }
        int year = number(0, 60), c = number(0, 179);
        if (random.nextInt(8) == 0) {
            due("chalk(" + year + ", " + c + ")", city.chalk(year, c), model.chalk(year, c));
        } else {
            int b = random.nextInt(12) == 0 ? 90 : random.nextInt(180), d = random.nextInt(19) - 9;
            for (int i = random.nextInt(5); i >= 0; i--) {
                year = random.nextInt(random.nextBoolean() ? 61 : 4);
                c = Math.floorMod(random.nextInt(4) == 0 ? -b - d * year : b + d * year, 180);
                due("chalk(" + year + ", " + c + ")", city.chalk(year, c), model.chalk(year, c));
            }
        }
        int w = number(0, 2), i = number(-2, random.nextBoolean() ? 3 : 40), what = number(0, 1);
        due("was(" + w + ", -1)", city.was(w, -1), model.was(w, -1));
        due("was(" + w + ", " + i + ")", city.was(w, i), model.was(w, i));
        due("ask(" + what + ")", city.ask(what), model.ask(what));
    }

    private void games() {
        int degrees = number(0, 179), what = number(0, 1);
        due("take(" + degrees + ", " + what + ")", city.take(degrees, what), model.take(degrees, what));
        int m = number(2, 12), p = number(0, Math.max(0, Math.min(m, 12) - 1)), q = number(0, Math.max(0, Math.min(m, 12) - 1));
        int a = number(0, 10), b = number(0, Math.max(0, 10 - Math.max(0, Math.min(a, 10)))), n = number(0, 16), part = number(0, 1);
        due("cock(" + m + ", " + p + ", " + a + ", " + b + ", " + n + ", " + q + ", " + part + ")",
                city.cock(m, p, a, b, n, q, part), model.cock(m, p, a, b, n, q, part));
    }

    private void book() {
        int seed = number(0, 9999), m = number(1, 99), what = number(0, 2);
        due("book(" + seed + ", " + m + ", " + what + ")", city.book(seed, m, what), model.book(seed, m, what));
    }

    private void tellAll() {
        for (int what = 0; what <= 5; what++) {
            due("told(" + what + ")", city.told(what), model.told(what));
        }
        for (int i = 0; i < 6; i++) {
            int what = random.nextInt(8) == 0 ? number(-3, 105) : 10 + 10 * random.nextInt(9) + random.nextInt(3);
            due("told(" + what + ")", city.told(what), model.told(what));
        }
    }
}
