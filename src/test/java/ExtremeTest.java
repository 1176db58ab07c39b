/** No number, however far out, makes a call throw; and a call that is refused changes nothing. */
public final class ExtremeTest {
    private static final int[] FAR = {
        Integer.MIN_VALUE, Integer.MIN_VALUE + 1, -65537, -1000, -181, -180, -61, -10, -9, -7, -6, -5, -4, -3, -2, -1,
        0, 1, 2, 3, 7, 8, 9, 10, 11, 12, 13, 16, 17, 33, 60, 61, 89, 90, 91, 99, 100, 126, 127, 179, 180, 181,
        359, 999, 9999, 10000, 65537, Integer.MAX_VALUE - 1, Integer.MAX_VALUE};
    private static final String[] TEXTS = {"", "A", "A&", "A+1", "A&B", "A&A", "I/", ".", "!", "A:I?....A:"};

    public static void main(String[] args) {
        for (int state = 0; state < TEXTS.length; state++) {
            for (int x : FAR) {
                for (int y : FAR) {
                    ask(state, x, y);
                }
            }
            for (int x : FAR) {
                many(state, x);
            }
        }
        Due.finish("ExtremeTest");
    }

    private static HornCity city(int state) {
        HornCity city = new HornCity();
        for (int one = 0; one < state && one < 9; one++) {
            city.one(one, 179 - 20 * one, one % 2 == 0 ? 9 : -9);
        }
        city.pair(0, 1, state % 2 == 0);
        city.pair(0, 3, state % 4 != 0);
        if (state % 3 == 0) {
            city.image(state % 2);
        }
        for (int i = 0; i < state - 1; i++) {
            city.chalk(60 - i, 90 + state % 4 * i);
        }
        for (char sign : TEXTS[state].toCharArray()) {
            city.say(sign);
        }
        return city;
    }

    private static long print(HornCity city) {
        long print = 17;
        for (int what = 0; what <= 5; what++) {
            print = 31 * print + city.told(what);
        }
        for (int one = 0; one <= 8; one++) {
            for (int part = 0; part <= 2; part++) {
                print = 31 * print + city.told(10 + 10 * one + part);
            }
        }
        for (int i = -1; i < 5; i++) {
            print = 31 * print + city.was(2, i);
        }
        return 31 * print + city.fault();
    }

    private static boolean refused(long answer) {
        return answer < 0;
    }

    private static void ask(int state, int x, int y) {
        HornCity city = city(state);
        long before = print(city);
        String call = "in state " + state + " of " + x + ", " + y + ": ";
        long[] read = {
            city.judge(x), city.behind(x, y), city.then(x), city.apart(x, y), city.triangles(x),
            city.bring(x, y, 1, 2, 3, 0), city.bring(0, 7, x, y, 3, 1), city.bring(0, 7, 3, x, 3, y),
            city.lean(x), city.bisect(x), city.meet(x, y), city.was(x, y), city.ask(x), city.take(x, y),
            city.cock(x, y, 1, 2, 3, 0, 0), city.cock(12, 3, x, y, 16, 1, 1), city.cock(7, 0, 5, 5, x, y, 0),
            city.cock(7, 0, 5, 5, 1, 1, x), city.book(x, y, 0), city.book(77, x, y), city.fault(), city.told(x)};
        Due.due(call + "reading " + read.length + " answers changes", print(city) == before ? 0 : 1, 0);
        writeIfRefused(city, call, before, x, y);
    }

    private static void writeIfRefused(HornCity city, String call, long before, int x, int y) {
        if (refused(city.one(x, y, 0)) && refused(city.one(0, x, y)) && refused(city.one(y, 5, x))) {
            Due.due(call + "one", print(city) == before ? 0 : 1, 0);
        }
        long then = print(city);
        if (refused(city.pair(x, y, true)) && refused(city.pair(x, y, false))) {
            Due.due(call + "pair", print(city) == then ? 0 : 1, 0);
        }
        then = print(city);
        if (refused(city.horn(x)) && refused(city.say(x)) && refused(city.chalk(x, y)) && refused(city.restore(x))) {
            Due.due(call + "horn, say, chalk, restore", print(city) == then ? 0 : 1, 0);
        }
        then = print(city);
        city.image(x);
        Due.due(call + "image", print(city) == then ? 0 : 1, 0);
        if (refused(city.done())) {
            Due.due(call + "done", print(city) == then ? 0 : 1, 0);
        }
        city.wipe();
        city.forget();
        Due.due(call + "signs and CHALKS", city.told(0) + city.told(4), 0);
    }

    /** The same number in every place. */
    private static void many(int state, int x) {
        HornCity city = city(state);
        Due.due("cock of " + x, city.cock(x, x, x, x, x, x, x), HornCity.LOST + HornCity.OUTSIDE);
        boolean may = x == 1 && state > 1;
        Due.due("bring in state " + state + " of " + x, refused(city.bring(x, x, x, x, x, x)) ? 0 : 1, may ? 1 : 0);
        Due.due("pair of " + x, city.pair(x, x, true), HornCity.UNKNOWN);
        Due.due("one of " + x, refused(city.one(x, x, x)) ? 0 : 1, x >= 0 && x <= 8 ? 1 : 0);
    }
}
