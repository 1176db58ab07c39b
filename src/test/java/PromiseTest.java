/** Each promise by hand: ordinary calls, the edges that the document names, wrong numbers. */
public final class PromiseTest {
    private static final int NONE = HornCity.NONE, UNKNOWN = HornCity.UNKNOWN, OUTSIDE = HornCity.OUTSIDE;
    private static final int STATE = HornCity.STATE, FULL = HornCity.FULL, NO = HornCity.NO;
    private static final int LEAST = Integer.MIN_VALUE, MOST = Integer.MAX_VALUE;

    public static void main(String[] args) {
        constants();
        promise1New();
        promise2One();
        promise3Pair();
        promise4Horn();
        promise5Say();
        promise6Wipe();
        promise7Fault();
        promise8Judge();
        promise9Done();
        promise10Behind();
        promise10YearsOfTwoWhoSit();
        promise10Chalk();
        promise11Then();
        promise11Horn();
        promise12Apart();
        promise13Triangles();
        promise14Bring();
        promise15Lean();
        promise16Bisect();
        promise17Meet();
        promise18Chalk();
        promise19Forget();
        promise20Was();
        promise21Ask();
        promise22Take();
        promise23Cock();
        promise23CockRefused();
        promise24Book();
        promise25Image();
        promise26Restore();
        promise27Told();
        Due.finish("PromiseTest");
    }

    private static void due(String call, long got, long want) {
        Due.due(call, got, want);
    }

    private static void write(HornCity x, String text) {
        x.wipe();
        for (int i = 0; i < text.length(); i++) {
            x.say(text.charAt(i));
        }
    }

    /** A by 10, B by 100 and C by 55, who drift by 2, -1 and 0. */
    private static HornCity three() {
        HornCity x = new HornCity();
        x.one(0, 10, 2);
        x.one(1, 100, -1);
        x.one(2, 55, 0);
        return x;
    }

    private static HornCity inclined(int... inclines) {
        HornCity x = new HornCity();
        for (int i = 0; i < inclines.length; i++) {
            x.one(i, inclines[i], 0);
        }
        return x;
    }

    private static void constants() {
        due("NONE", HornCity.NONE, -6);
        due("UNKNOWN", HornCity.UNKNOWN, -1);
        due("OUTSIDE", HornCity.OUTSIDE, -2);
        due("STATE", HornCity.STATE, -3);
        due("FULL", HornCity.FULL, -4);
        due("NO", HornCity.NO, -5);
        due("LOST", HornCity.LOST, -1_000_000_000_000_000_000L);
    }

    private static void promise1New() {
        HornCity x = new HornCity();
        for (int what = 0; what <= 5; what++) {
            due("1 told(" + what + ") of nobody", x.told(what), 0);
        }
        for (int one = 0; one <= 8; one++) {
            due("1 told of ONE " + one, x.told(10 + 10 * one), OUTSIDE);
        }
        due("1 horn", x.horn(0), 0);
        due("1 fault", x.fault(), NONE);
        due("1 restore(0)", x.restore(0), STATE);
        due("1 restore(1)", x.restore(1), STATE);
        due("1 another is not touched", three().told(1), 7);
        due("1 nor is this one", x.told(1), 0);
    }

    private static void promise2One() {
        HornCity x = new HornCity();
        due("2 first", x.one(0, 0, -9), 1);
        due("2 last", x.one(8, 179, 9), 2);
        due("2 middle", x.one(4, 90, 0), 3);
        due("2 anew", x.one(4, 91, 1), 3);
        due("2 inclined anew", x.told(50), 91);
        due("2 drifts anew", x.told(51), 10);
        due("2 drifts -9", x.told(11), 0);
        due("2 drifts 9", x.told(91), 18);
        x.pair(0, 8, true);
        due("2 anew of one who sits", x.one(8, 5, 5), 3);
        due("2 who sat by him", x.told(12), NONE);
        due("2 he himself", x.told(92), NONE);
        due("2 pairs", x.told(5), 0);
        x.pair(0, 8, true);
        x.one(4, 1, 1);
        due("2 others go on sitting", x.told(5), 1);
        due("2 -1", x.one(-1, 0, 0), UNKNOWN);
        due("2 9", x.one(9, 0, 0), UNKNOWN);
        due("2 least", x.one(LEAST, 0, 0), UNKNOWN);
        due("2 most", x.one(MOST, 0, 0), UNKNOWN);
        due("2 UNKNOWN ahead of OUTSIDE", x.one(9, 180, 10), UNKNOWN);
        due("2 inclined -1", x.one(0, -1, 0), OUTSIDE);
        due("2 inclined 180", x.one(0, 180, 0), OUTSIDE);
        due("2 drifts -10", x.one(0, 0, -10), OUTSIDE);
        due("2 drifts 10", x.one(0, 0, 10), OUTSIDE);
        due("2 refused changes nothing", x.told(11), 0);
        due("2 refused parts nobody", x.told(12), 8);
        due("2 nobody came", x.told(1), 1 + 16 + 256);
    }

    private static void promise3Pair() {
        HornCity x = inclined(1, 2, 3, 4);
        due("3 A and B", x.pair(0, 1, true), 1);
        due("3 D and C", x.pair(3, 2, true), 2);
        due("3 A by", x.told(12), 1);
        due("3 B by", x.told(22), 0);
        due("3 C by", x.told(32), 3);
        due("3 again", x.pair(0, 1, true), STATE);
        due("3 first sits", x.pair(0, 2, true), STATE);
        due("3 not these", x.pair(0, 2, false), STATE);
        due("3 apart, the other way round", x.pair(1, 0, false), 1);
        due("3 A by none", x.told(12), NONE);
        due("3 B by none", x.told(22), NONE);
        due("3 C still", x.told(32), 3);
        due("3 not again", x.pair(1, 0, false), STATE);
        due("3 first by none, second sits", x.pair(0, 3, true), STATE);
        due("3 first sits, second by none", x.pair(3, 0, true), STATE);
        due("3 both one", x.pair(0, 0, true), UNKNOWN);
        due("3 both one, not", x.pair(0, 0, false), UNKNOWN);
        due("3 no first", x.pair(8, 0, true), UNKNOWN);
        due("3 no second", x.pair(0, 8, false), UNKNOWN);
        due("3 -1", x.pair(-1, 0, true), UNKNOWN);
        due("3 NONE", x.pair(0, NONE, false), UNKNOWN);
        due("3 most", x.pair(MOST, LEAST, true), UNKNOWN);
        due("3 refused changes nothing", x.told(5), 1);
    }

    private static void promise4Horn() {
        HornCity x = new HornCity();
        due("4 to 9", x.horn(9), 0);
        due("4 to 3", x.horn(3), 9);
        due("4 -1", x.horn(-1), OUTSIDE);
        due("4 10", x.horn(10), OUTSIDE);
        due("4 refused changes nothing", x.told(2), 3);
        due("4 to 0", x.horn(0), 3);
        due("4 now", x.told(2), 0);
    }

    private static void promise5Say() {
        HornCity x = new HornCity();
        due("5 32", x.say(32), OUTSIDE);
        due("5 127", x.say(127), OUTSIDE);
        due("5 0", x.say(0), OUTSIDE);
        due("5 -1", x.say(-1), OUTSIDE);
        due("5 33", x.say(33), 1);
        due("5 126", x.say(126), 2);
        for (int signs = 3; signs <= 60; signs++) {
            due("5 sign " + signs, x.say('.'), signs);
        }
        due("5 full", x.say('.'), FULL);
        due("5 OUTSIDE ahead of FULL", x.say(127), OUTSIDE);
        due("5 signs", x.told(0), 60);
    }

    private static void promise6Wipe() {
        HornCity x = three();
        due("6 nothing", x.wipe(), 0);
        write(x, "A+1.");
        due("6 four", x.wipe(), 4);
        due("6 none now", x.told(0), 0);
        due("6 again", x.wipe(), 0);
        due("6 no fault", x.fault(), NONE);
        for (int i = 0; i < 60; i++) {
            x.say('!');
        }
        due("6 sixty", x.wipe(), 60);
        due("6 from the first sign again", x.say('A'), 1);
        due("6 nobody went", x.told(1), 7);
    }

    private static void fault(String text, int want) {
        HornCity x = new HornCity();
        write(x, text);
        due("7 fault of " + text, x.fault(), want);
        due("7 again, of " + text, x.fault(), want);
        due("7 signs of " + text, x.told(0), text.length());
    }

    private static void promise7Fault() {
        for (String text : new String[] {"", ".", "A+1", "I-9", "A&I", "I&I", "A/", "E:", "I?", "..A+9.B-1A&BC/D:E?."}) {
            fault(text, NONE);
        }
        for (String text : new String[] {"A", "A+", "A-", "A&", ".A", "A:B", "A:B&", "A&BC"}) {
            fault(text, text.length());
        }
        for (String text : new String[] {"J", "@", "a", "+", "&", "/", "?", ":", "1", "J.", "Z+1"}) {
            fault(text, 0);
        }
        for (String text : new String[] {"AA", "A.", "A1", "A=", "A*1", "AJ", "A;", "A!+1"}) {
            fault(text, 1);
        }
        for (String text : new String[] {"A+0", "A-0", "A+:", "A+A", "A&J", "A&@", "A&a", "A&1", "A-/", "A++1", "A&.", ".AA"}) {
            fault(text, 2);
        }
        fault("..J", 2);
        fault("A+1J", 3);
        fault("A+12", 3);
        fault("A:+", 2);
        fault("A/:J+", 2);
        StringBuilder long60 = new StringBuilder();
        for (int i = 0; i < 20; i++) {
            long60.append("C-3");
        }
        fault(long60.toString(), NONE);
        fault(long60.substring(0, 59), 59);
        fault(long60.substring(0, 59) + "0", 59);
        fault(long60.substring(0, 58) + "&", 59);
    }

    private static void judged(HornCity x, String text, int act, int why) {
        write(x, text);
        due("8 judge(0) of " + text, x.judge(0), act);
        due("8 judge(1) of " + text, x.judge(1), why);
        due("8 signs of " + text, x.told(0), text.length());
    }

    private static void promise8Judge() {
        HornCity x = three();
        judged(x, "", NONE, NONE);
        judged(x, "A+1B-1C:A?.", NONE, NONE);
        judged(x, "D+1", 0, 1);
        judged(x, "A+1I-1", 1, 1);
        judged(x, ".D:", 1, 1);
        judged(x, "D?", 0, 1);
        judged(x, "D/", 0, 1);
        judged(x, "A&D", 0, 1);
        judged(x, "D&A", 0, 1);
        judged(x, "D&D", 0, 1);
        judged(x, "A&A", 0, 2);
        judged(x, "A&BA&A", 1, 2);
        judged(x, "A&BA&D", 1, 1);
        judged(x, "A&BA&C", 1, 3);
        judged(x, "A&BC&A", 1, 3);
        judged(x, "A&BB&A", 1, 3);
        judged(x, "A/", 0, 3);
        judged(x, "A&BC/", 1, 3);
        judged(x, "A&BA/B/", 2, 3);
        judged(x, "A&BB/A&C", NONE, NONE);
        judged(x, "....A/D+1", 4, 3);
        due("8 nothing is DONE", x.told(3), 0);
        due("8 -1", x.judge(-1), OUTSIDE);
        due("8 2", x.judge(2), OUTSIDE);
        write(x, "A/B");
        due("8 a FAULT, where", x.judge(0), NO);
        due("8 a FAULT, why", x.judge(1), NO);
        due("8 OUTSIDE ahead of NO", x.judge(2), OUTSIDE);
        x.pair(0, 1, true);
        judged(x, "B/A&C", NONE, NONE);
        judged(x, "A&C", 0, 3);
        yearLimit();
    }

    /** Past its 512th call nothing is promised; that a year 1000 can not be is seen by more calls alone. */
    private static void yearLimit() {
        HornCity x = three();
        for (int year = 0; year < 960; year += 60) {
            write(x, ".".repeat(60));
            due("8 sixty years", x.done(), 60);
        }
        write(x, ".".repeat(38));
        x.done();
        judged(x, ".", NONE, NONE);
        judged(x, "..A+1", 1, 4);
        write(x, ".");
        due("8 to 999", x.done(), 1);
        due("8 year", x.told(3), 999);
        judged(x, "A+1.", 1, 4);
        due("8 the reason is of now", x.judge(0), 1);
    }

    private static void promise9Done() {
        HornCity x = three();
        due("9 nothing", x.done(), 0);
        write(x, "A+5B-5A&B.");
        due("9 four", x.done(), 4);
        due("9 empty", x.told(0), 0);
        due("9 A", x.told(10), 18);
        due("9 B", x.told(20), 93);
        due("9 C", x.told(30), 55);
        due("9 they sit", x.told(12), 1);
        due("9 year", x.told(3), 1);
        write(x, "A+1A&C");
        due("9 an ACT that can not be", x.done(), NO);
        due("9 nothing changes", x.told(10), 18);
        due("9 the PAD neither", x.told(0), 6);
        write(x, "A+1A");
        due("9 a FAULT", x.done(), NO);
        due("9 nothing changes then", x.told(10), 18);
        due("9 signs stay", x.told(0), 4);
        write(x, "A/..");
        due("9 three", x.done(), 3);
        due("9 horn", x.told(2), 1);
        due("9 by none", x.told(22), NONE);
        x.chalk(0, 10);
        write(x, "A:A?");
        due("9 chalk in a text", x.done(), 2);
        due("9 is none of the CHALKS", x.told(4), 1);
    }

    private static void behind(HornCity x, String text, int one, int inclined, int by, int chalked) {
        write(x, text);
        due("10 incline of " + one + " behind " + text, x.behind(one, 0), inclined);
        due("10 by whom of " + one + " behind " + text, x.behind(one, 1), by);
        due("10 chalk of " + one + " behind " + text, x.behind(one, 2), chalked);
    }

    private static void promise10Behind() {
        HornCity x = three();
        behind(x, "", 0, 10, NONE, NONE);
        behind(x, "A+9", 0, 19, NONE, NONE);
        behind(x, "A-9A-9", 0, 172, NONE, NONE);
        behind(x, "B+9B+9B+9B+9B+9B+9B+9B+9B+9", 1, 1, NONE, NONE);
        behind(x, "A&B", 1, 100, 0, NONE);
        behind(x, "A&BB/", 0, 10, NONE, NONE);
        behind(x, ".", 0, 12, NONE, NONE);
        behind(x, ".", 1, 99, NONE, NONE);
        behind(x, "...", 2, 55, NONE, NONE);
        due("10 nothing is DONE", x.told(10), 10);
        due("10 not there", x.behind(3, 0), UNKNOWN);
        due("10 -1", x.behind(-1, 0), UNKNOWN);
        due("10 9", x.behind(9, 0), UNKNOWN);
        due("10 UNKNOWN ahead of OUTSIDE", x.behind(3, 3), UNKNOWN);
        due("10 what -1", x.behind(0, -1), OUTSIDE);
        due("10 what 3", x.behind(0, 3), OUTSIDE);
        write(x, "A");
        due("10 a FAULT", x.behind(0, 0), NO);
        due("10 UNKNOWN ahead of NO", x.behind(3, 0), UNKNOWN);
        due("10 OUTSIDE ahead of NO", x.behind(0, 3), OUTSIDE);
        write(x, "A/");
        due("10 can not be", x.behind(1, 1), NO);
    }

    private static void promise10YearsOfTwoWhoSit() {
        // 90 between them either way: both go by more degrees
        behind(three(), "A&B.", 0, 13, 1, NONE);
        behind(three(), "A&B.", 1, 100, 0, NONE);
        // 45 between them: the one more, the other less
        behind(three(), "A&C.", 0, 13, 2, NONE);
        behind(three(), "A&C.", 2, 54, 0, NONE);
        // alike: not
        behind(inclined(7, 7), "A&B.", 0, 7, 1, NONE);
        // 89 and 91 between them
        behind(inclined(0, 89), "A&B.", 0, 1, 1, NONE);
        behind(inclined(0, 89), "A&B.", 1, 88, 0, NONE);
        behind(inclined(0, 91), "A&B.", 0, 179, 1, NONE);
        behind(inclined(0, 91), "A&B.", 1, 92, 0, NONE);
        // over the round's end
        behind(inclined(179, 0), "A&B.", 0, 0, 1, NONE);
        behind(inclined(179, 0), "A&B.", 1, 179, 0, NONE);
        // as they were ahead of the year, not as drifting takes them
        HornCity x = new HornCity();
        x.one(0, 10, 9);
        x.one(1, 12, -9);
        behind(x, "A&B.", 0, 20, 1, NONE);
        behind(x, "A&B.", 1, 2, 0, NONE);
        // by one degree they change places
        behind(inclined(10, 11), "A&B.", 0, 11, 1, NONE);
        behind(inclined(10, 11), "A&B.", 1, 10, 0, NONE);
        // a second year sees where the first one left them
        behind(inclined(10, 12), "A&B..", 0, 11, 1, NONE);
    }

    private static void promise10Chalk() {
        HornCity x = three();
        behind(x, "A:", 0, 10, NONE, 10);
        behind(x, "A:", 1, 100, NONE, NONE);
        behind(x, "A?", 0, 10, NONE, 170);
        behind(x, "A:A?", 0, 10, NONE, 170);
        behind(x, "A?A:", 0, 10, NONE, 10);
        behind(x, "A:A+5", 0, 15, NONE, 10);
        behind(x, "..A:", 0, 14, NONE, 15);
        behind(x, "..A?", 0, 14, NONE, 165);
        x.horn(9);
        behind(x, "A:", 0, 10, NONE, 19);
        x.one(3, 175, 0);
        behind(x, "D:", 3, 175, NONE, 4);
        behind(x, "D?", 3, 175, NONE, 176);
        x.one(3, 171, 0);
        behind(x, "D:", 3, 171, NONE, 0);
        behind(x, "D?", 3, 171, NONE, 0);
        x.wipe();
        due("10 chalk is of the text alone", x.behind(0, 2), NONE);
    }

    private static void then(HornCity x, String text, int horn, int year, int pairs, int act, int who) {
        write(x, text);
        due("11 horn behind " + text, x.then(0), horn);
        due("11 year behind " + text, x.then(1), year);
        due("11 pairs behind " + text, x.then(2), pairs);
        due("11 act behind " + text, x.then(3), act);
        due("11 who behind " + text, x.then(4), who);
    }

    private static void promise11Then() {
        HornCity x = three();
        then(x, "", 0, 0, 0, NONE, NONE);
        then(x, "A&B", 0, 0, 1, NONE, NONE);
        then(x, "A&BA/", 0, 0, 0, NONE, NONE);
        then(x, "A:B:C:", 0, 0, 0, NONE, NONE);
        then(x, "A+1B?C?", 0, 0, 0, 1, 1);
        then(x, "..C:A:", 1, 2, 0, 2, 2);
        x.one(3, 90, 0);
        then(x, "D?", 0, 0, 0, NONE, NONE);
        then(x, "D?D+1D?", 0, 0, 0, 2, 3);
        x.one(3, 0, 0);
        then(x, "D?", 0, 0, 0, NONE, NONE);
        x.horn(4);
        x.one(3, 88, 0);
        then(x, "D?D:", 4, 0, 0, 1, 3);
        then(x, "D?", 4, 0, 0, NONE, NONE);
        due("11 nothing is DONE", x.told(3), 0);
        due("11 -1", x.then(-1), OUTSIDE);
        due("11 5", x.then(5), OUTSIDE);
        write(x, "A&");
        due("11 a FAULT", x.then(0), NO);
        due("11 OUTSIDE ahead of NO", x.then(5), OUTSIDE);
        write(x, "A&A");
        due("11 can not be", x.then(4), NO);
    }

    private static void promise11Horn() {
        HornCity x = three();
        then(x, ".", 0, 1, 0, NONE, NONE);
        then(x, "..", 1, 2, 0, NONE, NONE);
        then(x, "...", 1, 3, 0, NONE, NONE);
        then(x, "....", 2, 4, 0, NONE, NONE);
        then(x, ".".repeat(17), 8, 17, 0, NONE, NONE);
        then(x, ".".repeat(18), 9, 18, 0, NONE, NONE);
        then(x, ".".repeat(20), 9, 20, 0, NONE, NONE);
        then(x, ".".repeat(60), 9, 60, 0, NONE, NONE);
        write(x, ".");
        x.done();
        then(x, ".", 1, 2, 0, NONE, NONE);
        then(x, "..", 1, 3, 0, NONE, NONE);
    }

    private static void promise12Apart() {
        HornCity x = inclined(0, 90, 91, 179, 45);
        due("12 90", x.apart(0, 1), 90);
        due("12 91", x.apart(0, 2), 89);
        due("12 over the end", x.apart(0, 3), 1);
        due("12 over the end, back", x.apart(3, 0), 1);
        due("12 45", x.apart(4, 1), 45);
        due("12 of one", x.apart(3, 3), 0);
        due("12 no second", x.apart(0, 5), UNKNOWN);
        due("12 no first", x.apart(5, 0), UNKNOWN);
        due("12 -1", x.apart(-1, 9), UNKNOWN);
        due("12 far out", x.apart(MOST, LEAST), UNKNOWN);
    }

    private static void triangles(HornCity x, int count, int first) {
        due("13 how many", x.triangles(0), count);
        due("13 the first", x.triangles(1), first);
    }

    private static void promise13Triangles() {
        triangles(new HornCity(), 0, NONE);
        triangles(inclined(0, 60), 0, NONE);
        triangles(inclined(0, 20, 40), 1, 7);
        triangles(inclined(0, 19, 40), 0, NONE);
        triangles(inclined(0, 20, 39), 0, NONE);
        triangles(inclined(160, 0, 20), 1, 7);
        triangles(inclined(161, 0, 20), 0, NONE);
        triangles(inclined(0, 0, 60, 120), 2, 1 + 4 + 8);
        triangles(inclined(0, 1, 2, 60, 120), 3, 1 + 8 + 16);
        triangles(inclined(0, 20, 40, 60, 80, 100, 120, 140, 160), 84, 7);
        triangles(inclined(60, 0, 0, 120, 0), 3, 1 + 2 + 8);
        HornCity x = new HornCity();
        x.one(8, 0, 0);
        x.one(7, 60, 0);
        x.one(5, 120, 0);
        triangles(x, 1, 256 + 128 + 32);
        due("13 -1", x.triangles(-1), OUTSIDE);
        due("13 2", x.triangles(2), OUTSIDE);
    }

    private static void bring(HornCity x, int to, int a, int b, int c, int count, int first) {
        String call = "14 to " + to + " by " + a + ", " + b + ", " + c;
        due(call + ": how many", x.bring(0, to, a, b, c, 0), count);
        due(call + ": the first", x.bring(0, to, a, b, c, 1), first);
    }

    private static void promise14Bring() {
        HornCity x = inclined(10, 0);
        bring(x, 10, 1, 2, 3, 0, NONE);
        bring(x, 13, 3, 5, 7, 1, 0);
        bring(x, 15, 3, 5, 7, 1, 1);
        bring(x, 17, 3, 5, 7, 1, 2);
        bring(x, 7, 3, 5, 7, 1, 3);
        bring(x, 5, 3, 5, 7, 1, 4);
        bring(x, 3, 3, 5, 7, 1, 5);
        // 2 more is 5 less 3 and 7 less 5: the second, then either order
        bring(x, 12, 3, 5, 7, 2, 1);
        bring(x, 11, 2, 4, 6, NONE, NONE);
        bring(x, 0, 1, 1, 1, 10, 3);
        bring(x, 100, 90, 1, 1, 1, 0);
        bring(x, 100, 1, 90, 90, 1, 1);
        bring(x, 100, 1, 1, 1, 90, 0);
        bring(x, 99, 1, 1, 1, 89, 0);
        bring(x, 101, 1, 1, 1, 89, 3);
        bring(x, 9, 179, 179, 179, 1, 0);
        bring(x, 11, 179, 179, 179, 1, 3);
        due("14 another", x.bring(1, 2, 1, 5, 9, 0), 2);
        due("14 nothing is turned", x.told(10), 10);
        due("14 not there", x.bring(2, 0, 1, 1, 1, 0), UNKNOWN);
        due("14 9", x.bring(9, 0, 1, 1, 1, 0), UNKNOWN);
        due("14 UNKNOWN ahead of OUTSIDE", x.bring(-1, 180, 0, 0, 0, 2), UNKNOWN);
        due("14 to -1", x.bring(0, -1, 1, 1, 1, 0), OUTSIDE);
        due("14 to 180", x.bring(0, 180, 1, 1, 1, 0), OUTSIDE);
        due("14 a 0", x.bring(0, 0, 0, 1, 1, 0), OUTSIDE);
        due("14 b 0", x.bring(0, 0, 1, 0, 1, 0), OUTSIDE);
        due("14 c 0", x.bring(0, 0, 1, 1, 0, 0), OUTSIDE);
        due("14 a 180", x.bring(0, 0, 180, 1, 1, 0), OUTSIDE);
        due("14 b 180", x.bring(0, 0, 1, 180, 1, 0), OUTSIDE);
        due("14 c 180", x.bring(0, 0, 1, 1, 180, 0), OUTSIDE);
        due("14 what -1", x.bring(0, 0, 1, 1, 1, -1), OUTSIDE);
        due("14 what 2", x.bring(0, 0, 1, 1, 1, 2), OUTSIDE);
        due("14 OUTSIDE though he is so", x.bring(0, 10, 1, 1, 180, 0), OUTSIDE);
    }

    private static void lean(HornCity x, int proposal, int sum) {
        due("15 p", x.lean(0), proposal);
        due("15 how much", x.lean(1), sum);
    }

    private static void promise15Lean() {
        lean(new HornCity(), 0, 0);
        lean(inclined(77), 77, 0);
        lean(inclined(10, 20), 10, 10);
        lean(inclined(179, 1), 0, 2);
        lean(inclined(0, 90), 0, 90);
        lean(inclined(10, 100, 55), 55, 90);
        // by 170 to 179 and by 0 as much: 0 is the least
        lean(inclined(170, 170, 0, 5), 0, 25);
        lean(inclined(170, 170, 0), 170, 10);
        lean(inclined(179), 179, 0);
        due("15 -1", new HornCity().lean(-1), OUTSIDE);
        due("15 2", new HornCity().lean(2), OUTSIDE);
    }

    private static void bisect(HornCity x, int sum, int half) {
        due("16 how much", x.bisect(0), sum);
        due("16 the half", x.bisect(1), half);
    }

    private static void promise16Bisect() {
        bisect(new HornCity(), 0, 0);
        bisect(inclined(50), 0, 1);
        bisect(inclined(0, 90), 0, 1);
        bisect(inclined(0, 50, 60), 10, 1);
        bisect(inclined(0, 50, 10), 10, 1 + 4);
        bisect(inclined(10, 100, 55), 45, 1);
        bisect(inclined(0, 90, 1, 89), 2, 1 + 4);
        // three to one would be 0, but is no bisection
        bisect(inclined(0, 0, 0, 90), 90, 1 + 2);
        bisect(inclined(5, 5, 5, 5, 5, 5, 5, 5, 5), 0, 1 + 2 + 4 + 8);
        HornCity x = new HornCity();
        x.one(8, 0, 0);
        x.one(3, 0, 0);
        x.one(6, 90, 0);
        bisect(x, 0, 256 + 8);
        due("16 -1", x.bisect(-1), OUTSIDE);
        due("16 2", x.bisect(2), OUTSIDE);
    }

    private static void promise17Meet() {
        HornCity x = three();
        due("17 A and B", x.meet(0, 1), 30);
        due("17 B and A", x.meet(1, 0), 30);
        due("17 never", x.meet(0, 2), NONE);
        due("17 B and C", x.meet(1, 2), 45);
        due("17 with himself", x.meet(0, 0), 0);
        x.one(3, 11, 2);
        due("17 drifting alike", x.meet(0, 3), NONE);
        x.one(4, 10, -2);
        due("17 alike now", x.meet(0, 4), 0);
        x.one(5, 56, -1);
        due("17 one year", x.meet(2, 5), 1);
        x.one(5, 54, -1);
        due("17 the long way round", x.meet(2, 5), 179);
        x.pair(2, 5, true);
        due("17 as if alone", x.meet(2, 5), 179);
        x.horn(9);
        due("17 whatever the horn", x.meet(0, 1), 30);
        due("17 no first", x.meet(8, 0), UNKNOWN);
        due("17 no second", x.meet(0, 9), UNKNOWN);
        due("17 -1", x.meet(-1, 0), UNKNOWN);
    }

    private static void promise18Chalk() {
        HornCity x = new HornCity();
        due("18 -1", x.chalk(-1, 0), OUTSIDE);
        due("18 61", x.chalk(61, 0), OUTSIDE);
        due("18 c -1", x.chalk(0, -1), OUTSIDE);
        due("18 c 180", x.chalk(0, 180), OUTSIDE);
        due("18 none", x.told(4), 0);
        due("18 first", x.chalk(0, 0), 1);
        due("18 last year", x.chalk(60, 179), 2);
        for (int count = 3; count <= 8; count++) {
            due("18 the same again", x.chalk(60, 179), count);
        }
        due("18 full", x.chalk(60, 179), FULL);
        due("18 OUTSIDE ahead of FULL", x.chalk(61, 179), OUTSIDE);
        due("18 eight", x.told(4), 8);
    }

    private static void promise19Forget() {
        HornCity x = new HornCity();
        due("19 none", x.forget(), 0);
        x.chalk(0, 10);
        x.chalk(1, 15);
        x.chalk(2, 15);
        due("19 nothing fits", x.was(0, -1), 0);
        due("19 three", x.forget(), 3);
        due("19 none now", x.told(4), 0);
        due("19 all fit", x.was(0, -1), 3420);
        due("19 again", x.forget(), 0);
        due("19 a first again", x.chalk(0, 1), 1);
    }

    private static void promise20Was() {
        HornCity x = new HornCity();
        due("20 all", x.was(0, -1), 3420);
        due("20 first", x.was(0, 0), 0);
        due("20 last", x.was(2, 3419), 20 * 179 + 18);
        due("20 behind the last", x.was(2, 3420), NONE);
        due("20 -2", x.was(0, -2), NONE);
        due("20 least", x.was(0, LEAST), NONE);
        due("20 most", x.was(0, MOST), NONE);
        due("20 w -1", x.was(-1, -1), OUTSIDE);
        due("20 w 3", x.was(3, -1), OUTSIDE);
        x.chalk(0, 10);
        due("20 of one", x.was(0, -1), 19);
        due("20 of one, first", x.was(0, 0), 200);
        due("20 of one, last", x.was(0, 18), 218);
        due("20 or of its wrong end", x.was(1, -1), 38);
        due("20 wrong end", x.was(1, 19), 20 * 170);
        due("20 behind", x.was(1, 38), NONE);
        x.chalk(1, 12);
        due("20 of two", x.was(0, -1), 1);
        due("20 he", x.was(0, 0), 20 * 10 + 2 + 9);
        due("20 one wrong: 12 to 20 a year and none", x.was(1, -1), 1);
        due("20 both wrong", x.was(2, -1), 2);
        due("20 he then", x.was(2, 1), 20 * 170 - 2 + 9);
        x.forget();
        // 90 and 0 are so from either end
        x.chalk(0, 90);
        due("20 right is right from either end", x.was(2, -1), 19);
        x.chalk(1, 90);
        x.chalk(2, 90);
        due("20 no wrong end is used up", x.was(0, 0), 20 * 90 + 9);
        x.forget();
        // three from the wrong end are too many, for him by 10 and 1 as for him by 170 and -1
        x.chalk(0, 170);
        x.chalk(1, 169);
        x.chalk(2, 168);
        x.chalk(3, 13);
        x.chalk(4, 14);
        x.chalk(5, 15);
        due("20 three wrong ends", x.was(2, -1), 0);
        x.forget();
        x.chalk(0, 170);
        x.chalk(1, 11);
        x.chalk(2, 168);
        x.chalk(3, 13);
        x.chalk(4, 14);
        due("20 two wrong ends", x.was(2, -1), 1);
        due("20 two wrong ends: he", x.was(2, 0), 20 * 10 + 1 + 9);
        due("20 one is too few", x.was(1, -1), 0);
        x.forget();
        x.chalk(60, 0);
        due("20 year 60, first", x.was(0, 0), 0);
        due("20 ONES are not asked", three().was(0, -1), 3420);
    }

    private static void promise21Ask() {
        HornCity x = new HornCity();
        due("21 none: the year", x.ask(0), 0);
        due("21 none: how many", x.ask(1), 19);
        x.chalk(0, 10);
        due("21 the year", x.ask(0), 1);
        due("21 how many", x.ask(1), 1);
        x.forget();
        x.chalk(60, 10);
        // b is 10 less 60 d: in year 0 all whose drifts differ by 3 are alike
        due("21 year 0 does not part them", x.ask(0), 1);
        due("21 how many then", x.ask(1), 1);
        x.forget();
        x.chalk(1, 10);
        due("21 year 0 parts them", x.ask(0), 0);
        x.chalk(2, 12);
        due("21 one is left", x.ask(1), 1);
        due("21 any year", x.ask(0), 0);
        x.chalk(3, 9);
        due("21 nothing fits", x.ask(0), NONE);
        due("21 nothing fits, how many", x.ask(1), NONE);
        due("21 -1", x.ask(-1), OUTSIDE);
        due("21 2", x.ask(2), OUTSIDE);
    }

    private static void promise22Take() {
        HornCity x = new HornCity();
        // 2 leaves 1; 3 and 4 leave 2; 5 leaves 4 or 3; 6 and 7 leave 5; 8 leaves 7, 6 or 4
        int[] first = {NONE, 1, NONE, 1, 2, NONE, 1, 2, NONE};
        for (int n = 0; n < first.length; n++) {
            due("22 whether, of " + n, x.take(n, 0), first[n] == NONE ? 0 : 1);
            due("22 how many, of " + n, x.take(n, 1), first[n]);
        }
        due("22 9 takes 1", x.take(9, 1), 1);
        due("22 10 takes half", x.take(10, 1), 5);
        due("22 179", x.take(179, 0), 0);
        due("22 again, of less", x.take(4, 1), 2);
        due("22 -1", x.take(-1, 0), OUTSIDE);
        due("22 180", x.take(180, 0), OUTSIDE);
        due("22 what -1", x.take(5, -1), OUTSIDE);
        due("22 what 2", x.take(5, 2), OUTSIDE);
    }

    private static void cock(int m, int p, int a, int b, int n, int q, long upper, long lower) {
        HornCity x = new HornCity();
        String call = "23 " + m + " " + p + " " + a + " " + b + " " + n + " " + q;
        due(call + " upper", x.cock(m, p, a, b, n, q, 0), upper);
        due(call + " lower", x.cock(m, p, a, b, n, q, 1), lower);
    }

    private static void promise23Cock() {
        cock(3, 0, 5, 0, 1, 1, 1, 2);
        cock(3, 0, 5, 0, 1, 0, 1, 2);
        cock(3, 0, 5, 0, 1, 2, 0, 1);
        cock(3, 0, 5, 2, 1, 2, 1, 5);
        cock(2, 0, 3, 4, 1, 1, 7, 10);
        cock(2, 1, 3, 4, 0, 1, 1, 1);
        cock(2, 1, 3, 4, 0, 0, 0, 1);
        cock(12, 11, 10, 0, 2, 1, 1, 1);
        cock(12, 0, 0, 10, 3, 9, 1, 1);
        cock(5, 2, 0, 0, 16, 2, 1, 1);
        // one way of 10 to the 16th
        cock(12, 0, 1, 0, 11, 11, 1, 100_000_000_000L);
        cock(4, 0, 5, 5, 2, 2, 1, 2);
        cock(7, 3, 3, 4, 16, 5, 1406563212078441L, 10_000_000_000_000_000L);
    }

    private static void promise23CockRefused() {
        HornCity x = new HornCity();
        long lost = -1_000_000_000_000_000_002L;
        due("23 m 1", x.cock(1, 0, 0, 0, 0, 0, 0), lost);
        due("23 m 0", x.cock(0, 0, 0, 0, 0, 0, 0), lost);
        due("23 m least", x.cock(LEAST, 0, 0, 0, 0, 0, 0), lost);
        due("23 m 13", x.cock(13, 0, 0, 0, 0, 0, 0), lost);
        due("23 p -1", x.cock(5, -1, 0, 0, 0, 0, 0), lost);
        due("23 p 5", x.cock(5, 5, 0, 0, 0, 0, 0), lost);
        due("23 q -1", x.cock(5, 0, 0, 0, 0, -1, 0), lost);
        due("23 q 5", x.cock(5, 0, 0, 0, 0, 5, 0), lost);
        due("23 a -1", x.cock(5, 0, -1, 0, 0, 0, 0), lost);
        due("23 a 11", x.cock(5, 0, 11, 0, 0, 0, 0), lost);
        due("23 a 11, b -1", x.cock(5, 0, 11, -1, 0, 0, 0), lost);
        due("23 b -1", x.cock(5, 0, 0, -1, 0, 0, 0), lost);
        due("23 b 11", x.cock(5, 0, 0, 11, 0, 0, 0), lost);
        due("23 a and b 11", x.cock(5, 0, 5, 6, 0, 0, 0), lost);
        due("23 n -1", x.cock(5, 0, 0, 0, -1, 0, 0), lost);
        due("23 n 17", x.cock(5, 0, 0, 0, 17, 0, 0), lost);
        due("23 part -1", x.cock(5, 0, 0, 0, 0, 0, -1), lost);
        due("23 part 2", x.cock(5, 0, 0, 0, 0, 0, 2), lost);
        due("23 most", x.cock(MOST, MOST, MOST, MOST, MOST, MOST, MOST), lost);
        due("23 ends", x.cock(12, 11, 0, 10, 16, 0, 1), 1);
        due("23 and right ones still are", x.cock(12, 11, 0, 10, 11, 0, 0), 1);
    }

    private static void promise24Book() {
        HornCity x = three();
        // 74: C, draw 0, z 1: he turns by 2
        due("24 one ACT: INCLINES", x.book(0, 1, 0), 167);
        due("24 one ACT: pairs", x.book(0, 1, 1), 0);
        due("24 one ACT: TRIANGLES", x.book(0, 1, 2), 1);
        due("24 of 77", x.book(77, 99, 0), 240);
        due("24 of 77: pairs", x.book(77, 99, 1), 1);
        due("24 of 77: TRIANGLES", x.book(77, 99, 2), 0);
        due("24 nothing is DONE", x.told(10), 10);
        due("24 nor the year", x.told(3), 0);
        due("24 again", x.book(77, 99, 0), 240);
        due("24 last seed", x.book(9999, 99, 1) >= 0 ? 1 : 0, 1);
        due("24 of nobody", new HornCity().book(9999, 99, 0), 0);
        // seed 1: 149 is F, draw 0, z 2; he is not there
        due("24 who is not there does not turn", x.book(1, 1, 0), 165);
        x.one(5, 0, 0);
        due("24 who is there does", x.book(1, 1, 0), 165 + 3);
        due("24 seed -1", x.book(-1, 1, 0), OUTSIDE);
        due("24 seed 10000", x.book(10000, 1, 0), OUTSIDE);
        due("24 m 0", x.book(0, 0, 0), OUTSIDE);
        due("24 m 100", x.book(0, 100, 0), OUTSIDE);
        due("24 what -1", x.book(0, 1, -1), OUTSIDE);
        due("24 what 3", x.book(0, 1, 3), OUTSIDE);
        write(x, "A+9");
        due("24 the PAD is not asked", x.book(0, 1, 0), 167);
        due("24 nor changed", x.told(0), 3);
    }

    private static void promise25Image() {
        HornCity x = three();
        due("25 -1", x.image(-1), OUTSIDE);
        due("25 2", x.image(2), OUTSIDE);
        due("25 refused keeps nothing", x.restore(0), STATE);
        due("25 first", x.image(0), 1);
        x.one(0, 99, 9);
        due("25 second", x.image(1), 1);
        x.restore(0);
        due("25 first is its own", x.told(10), 10);
        x.restore(1);
        due("25 second is its own", x.told(10), 99);
        due("25 anew", x.image(0), 1);
        x.one(0, 1, 1);
        x.restore(0);
        due("25 the newest is kept", x.told(10), 99);
    }

    private static void promise26Restore() {
        HornCity x = three();
        due("26 -1", x.restore(-1), OUTSIDE);
        due("26 2", x.restore(2), OUTSIDE);
        due("26 not kept", x.restore(1), STATE);
        x.pair(0, 1, true);
        x.horn(5);
        x.chalk(0, 10);
        write(x, ".");
        x.done();
        x.image(1);
        due("26 the other is not kept", x.restore(0), STATE);
        x.one(3, 1, 1);
        x.one(0, 7, 7);
        x.horn(0);
        x.chalk(1, 1);
        write(x, "..A:");
        x.done();
        write(x, "B+1");
        due("26 kept", x.restore(1), 1);
        due("26 ONES", x.told(1), 7);
        due("26 inclined", x.told(10), 13);
        due("26 drifts", x.told(11), 11);
        due("26 by whom", x.told(12), 1);
        due("26 by whom, back", x.told(22), 0);
        due("26 the horn", x.told(2), 5);
        due("26 the year", x.told(3), 1);
        due("26 the CHALKS", x.told(4), 1);
        due("26 the CHALKS themselves", x.was(0, 0), 200);
        due("26 but the PAD", x.told(0), 3);
        x.one(0, 50, 0);
        x.forget();
        x.chalk(0, 20);
        due("26 again", x.restore(1), 1);
        due("26 as it was", x.told(10), 13);
        due("26 CHALKS as they were", x.was(0, 0), 200);
        x.forget();
        x.chalk(7, 10);
        x.image(0);
        x.forget();
        x.chalk(3, 20);
        x.restore(0);
        // by 3 and 1 he comes to 10 in year 7
        due("26 CHALKS with their years", x.was(0, 0), 20 * 3 + 1 + 9);
    }

    private static void promise27Told() {
        HornCity x = three();
        x.one(8, 179, -9);
        x.pair(0, 8, true);
        x.horn(7);
        x.chalk(3, 3);
        x.chalk(4, 4);
        write(x, "A+1.");
        due("27 signs", x.told(0), 4);
        due("27 ONES", x.told(1), 7 + 256);
        due("27 the horn", x.told(2), 7);
        due("27 the year", x.told(3), 0);
        due("27 CHALKS", x.told(4), 2);
        due("27 pairs", x.told(5), 1);
        due("27 A inclined", x.told(10), 10);
        due("27 A drifts", x.told(11), 11);
        due("27 A by", x.told(12), 8);
        due("27 B by none", x.told(22), NONE);
        due("27 C drifts", x.told(31), 9);
        due("27 I inclined", x.told(90), 179);
        due("27 I drifts", x.told(91), 0);
        due("27 I by", x.told(92), 0);
        for (int what : new int[] {-1, 6, 7, 9, 13, 19, 23, 40, 42, 93, 99, 100, 110, -10, LEAST, MOST}) {
            due("27 told(" + what + ")", x.told(what), OUTSIDE);
        }
    }
}
