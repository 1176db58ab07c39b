/** Answers of calls that ask of numbers alone, row by row, against the model's; an object is asked 512 times at most. */
public final class TablesTest {
    public static void main(String[] args) {
        takes();
        cocks();
        brings();
        books();
        Due.finish("TablesTest");
    }

    private static void takes() {
        HornCity city = new HornCity();
        Model model = new Model();
        for (int n = 179; n >= 0; n--) {
            for (int what = 0; what <= 1; what++) {
                Due.due("take(" + n + ", " + what + ")", city.take(n, what), model.take(n, what));
            }
        }
    }

    private static void cocks() {
        Model model = new Model();
        for (int m = 2; m <= 12; m++) {
            for (int a = 0; a <= 10; a++) {
                HornCity city = new HornCity();
                for (int b = 0; a + b <= 10; b++) {
                    for (int n = 0; n <= 16; n += a % 3 + 1) {
                        int p = (a + b + n) % m, q = (3 * a + 5 * b + 7 * n) % m;
                        for (int part = 0; part <= 1; part++) {
                            Due.due("cock(" + m + ", " + p + ", " + a + ", " + b + ", " + n + ", " + q + ", " + part + ")",
                                    city.cock(m, p, a, b, n, q, part), model.cock(m, p, a, b, n, q, part));
                        }
                    }
                }
            }
        }
    }

    private static void brings() {
        Model model = new Model();
        model.one(3, 33, 3);
        for (int to = 0; to <= 179; to++) {
            HornCity city = new HornCity();
            city.one(3, 33, 3);
            int a = 1 + to * 7 % 179, b = 1 + to * 31 % 179, c = 1 + to * 57 % 179;
            for (int what = 0; what <= 1; what++) {
                Due.due("bring to " + to, city.bring(3, to, a, b, c, what), model.bring(3, to, a, b, c, what));
                Due.due("bring by 4, 6, 10 to " + to, city.bring(3, to, 4, 6, 10, what), model.bring(3, to, 4, 6, 10, what));
            }
        }
    }

    private static void books() {
        for (int seed = 0; seed <= 9999; seed += 101) {
            HornCity city = new HornCity();
            Model model = new Model();
            for (int one = 0; one <= 8; one++) {
                city.one(one, 19 * one, one - 4);
                model.one(one, 19 * one, one - 4);
            }
            for (int m = 1; m <= 99; m += 7) {
                int what = (seed + m) % 3;
                Due.due("book(" + seed + ", " + m + ", " + what + ")", city.book(seed, m, what), model.book(seed, m, what));
            }
        }
    }
}
