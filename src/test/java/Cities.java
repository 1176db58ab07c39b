/** What the tests by hand begin with: the refusals, small cities, texts on the PAD. */
abstract class Cities {
    static final int NONE = HornCity.NONE, UNKNOWN = HornCity.UNKNOWN, OUTSIDE = HornCity.OUTSIDE;
    static final int STATE = HornCity.STATE, FULL = HornCity.FULL, NO = HornCity.NO;
    static final int LEAST = Integer.MIN_VALUE, MOST = Integer.MAX_VALUE;

    static void due(String call, long got, long want) {
        Due.due(call, got, want);
    }

    static void sentence(String words) {
        Due.sentence(words);
    }

    static HornCity write(HornCity x, String text) {
        x.wipe();
        for (int i = 0; i < text.length(); i++) {
            x.say(text.charAt(i));
        }
        return x;
    }

    static String dots(int years) {
        return ".".repeat(years);
    }

    /** A by 10, B by 100 and C by 55, who drift by 2, -1 and 0. */
    static HornCity three() {
        HornCity x = new HornCity();
        x.one(0, 10, 2);
        x.one(1, 100, -1);
        x.one(2, 55, 0);
        return x;
    }

    /** From A on, so inclined, who do not drift. */
    static HornCity inclined(int... inclines) {
        HornCity x = new HornCity();
        for (int i = 0; i < inclines.length; i++) {
            x.one(i, inclines[i], 0);
        }
        return x;
    }

    /** A alone, so inclined and drifting. */
    static HornCity alone(int inclined, int drifts) {
        HornCity x = new HornCity();
        x.one(0, inclined, drifts);
        return x;
    }

    static void inclineBehind(HornCity x, String text, int one, int want) {
        due("behind " + text + " ONE " + one + " is INCLINED by", write(x, text).behind(one, 0), want);
    }

    static void mateBehind(HornCity x, String text, int one, int want) {
        due("behind " + text + " ONE " + one + " sits by", write(x, text).behind(one, 1), want);
    }

    static void chalkBehind(HornCity x, String text, int one, int want) {
        due("behind " + text + " ONE " + one + " was chalked with", write(x, text).behind(one, 2), want);
    }

    static void thenBehind(HornCity x, String text, int what, int want) {
        due("behind " + text + " then(" + what + ")", write(x, text).then(what), want);
    }

    static void faultOf(String text, int want) {
        due("fault of " + text, write(new HornCity(), text).fault(), want);
    }

    static void judged(HornCity x, String text, int act, int why) {
        write(x, text);
        due("judge(0) of " + text, x.judge(0), act);
        due("judge(1) of " + text, x.judge(1), why);
    }
}
