/**
 * Each promise by hand, a test for each of its sentences: ordinary calls, the edges that the sentence
 * names, wrong numbers. What the terms say of edges is in EdgesOfTermsTest.
 */
public final class PromiseTest extends Cities {
    private static final int[] FAR = {LEAST, LEAST + 1, -1000, 1000, MOST - 1, MOST};

    public static void main(String[] args) {
        constants();
        promise1();
        promise2OneIsThere();
        promise2Refused();
        promise3Sit();
        promise3SitByNone();
        promise3Unknown();
        promise3State();
        promise4Horn();
        promise4Refused();
        promise5Sign();
        promise5Refused();
        promise6SignsGo();
        promise7Fault();
        promise8Judged();
        promise8Refused();
        promise9Done();
        promise9PadIsEmpty();
        promise9Refused();
        promise10Behind();
        promise10YearsOfTwoWhoSit();
        promise10Chalk();
        promise10Refused();
        promise11Then();
        promise11Horn();
        promise11Refused();
        promise12Apart();
        promise12Unknown();
        promise13Triangles();
        promise13Refused();
        promise14Bring();
        promise14Refused();
        promise15Lean();
        promise15Refused();
        promise16Bisect();
        promise16Refused();
        promise17Meet();
        promise17Unknown();
        promise18Chalk();
        promise18Refused();
        promise19ChalksGo();
        promise20Was();
        promise20None();
        promise20Refused();
        promise21Ask();
        promise21NothingFits();
        promise21Refused();
        promise22Take();
        promise22Refused();
        promise23Cock();
        promise23Refused();
        promise24Book();
        promise24Refused();
        promise25Kept();
        promise25AllButThePad();
        promise25Refused();
        promise26Restored();
        promise26Outside();
        promise26State();
        promise27Told();
        promise27Refused();
        Due.finish("PromiseTest");
    }

    private static void constants() {
        sentence("The public face");
        due("NONE", HornCity.NONE, -6);
        due("UNKNOWN", HornCity.UNKNOWN, -1);
        due("OUTSIDE", HornCity.OUTSIDE, -2);
        due("STATE", HornCity.STATE, -3);
        due("FULL", HornCity.FULL, -4);
        due("NO", HornCity.NO, -5);
        due("LOST", HornCity.LOST, -1_000_000_000_000_000_000L);
    }

    private static void promise1() {
        sentence("Promise 1: Nobody.");
        HornCity x = new HornCity();
        for (int what = 0; what <= 5; what++) {
            due("told(" + what + ")", x.told(what), 0);
        }
        for (int one = 0; one <= 8; one++) {
            due("told of ONE " + one, x.told(10 + 10 * one), OUTSIDE);
        }
        due("horn", x.horn(0), 0);
        due("fault", x.fault(), NONE);
        due("wipe", x.wipe(), 0);
        due("forget", x.forget(), 0);
        due("triangles(0)", x.triangles(0), 0);
        due("triangles(1)", x.triangles(1), NONE);
        due("lean(0)", x.lean(0), 0);
        due("lean(1)", x.lean(1), 0);
        due("bisect(0)", x.bisect(0), 0);
        due("bisect(1)", x.bisect(1), 0);
        due("book", x.book(9999, 99, 0), 0);
        due("restore(0)", x.restore(0), STATE);
        due("restore(1)", x.restore(1), STATE);
        due("told(1) of another object", three().told(1), 7);
        due("told(1) of this one", x.told(1), 0);
    }

    // ---- 1 people, the horn, years

    private static void promise2OneIsThere() {
        sentence("Promise 2: A ONE is there (or anew: who sat by him sits by none): how many are.");
        HornCity x = new HornCity();
        due("first", x.one(0, 0, -9), 1);
        due("last", x.one(8, 179, 9), 2);
        due("middle", x.one(4, 90, 0), 3);
        due("anew", x.one(4, 91, 1), 3);
        due("inclined anew", x.told(50), 91);
        due("drifts anew", x.told(51), 10);
        due("drifts -9", x.told(11), 0);
        due("drifts 9", x.told(91), 18);
        x.pair(0, 8, true);
        due("anew of one who sits", x.one(8, 5, 5), 3);
        due("who sat by him", x.told(12), NONE);
        due("he himself", x.told(92), NONE);
        due("pairs", x.told(5), 0);
        x.pair(0, 8, true);
        x.one(4, 1, 1);
        due("others go on sitting", x.told(5), 1);
        x.one(0, 1, 1);
        due("the lesser of both anew", x.told(92), NONE);
        for (int one = 0; one <= 8; one++) {
            x.one(one, one, 0);
        }
        due("all nine", x.one(8, 8, 0), 9);
    }

    private static void promise2Refused() {
        sentence("Promise 2: UNKNOWN; OUTSIDE.");
        HornCity x = new HornCity();
        x.one(0, 5, 5);
        x.one(8, 5, 5);
        x.pair(0, 8, true);
        due("-1", x.one(-1, 0, 0), UNKNOWN);
        due("9", x.one(9, 0, 0), UNKNOWN);
        due("inclined -1", x.one(0, -1, 0), OUTSIDE);
        due("inclined 180", x.one(0, 180, 0), OUTSIDE);
        due("drifts -10", x.one(0, 0, -10), OUTSIDE);
        due("drifts 10", x.one(0, 0, 10), OUTSIDE);
        for (int far : FAR) {
            due("one " + far, x.one(far, 0, 0), UNKNOWN);
            due("inclined " + far, x.one(0, far, 0), OUTSIDE);
            due("drifts " + far, x.one(1, 0, far), OUTSIDE);
        }
        due("UNKNOWN ahead of OUTSIDE", x.one(9, 180, 10), UNKNOWN);
        due("inclined as he was", x.told(10), 5);
        due("drifts as he did", x.told(11), 14);
        due("nobody is parted", x.told(12), 8);
        due("nobody came", x.told(1), 257);
    }

    private static void promise3Sit() {
        sentence("Promise 3: Two sit by each other (is true; they sat by none)");
        HornCity x = inclined(1, 2, 3, 4, 5, 6, 7, 8, 9);
        due("A and B", x.pair(0, 1, true), 1);
        due("D and C", x.pair(3, 2, true), 2);
        due("A by", x.told(12), 1);
        due("B by", x.told(22), 0);
        due("C by", x.told(32), 3);
        due("D by", x.told(42), 2);
        due("I and E", x.pair(8, 4, true), 3);
        due("F and G", x.pair(5, 6, true), 4);
        due("H by none", x.told(82), NONE);
    }

    private static void promise3SitByNone() {
        sentence("Promise 3: or not (they sat by each other): how many pairs sit.");
        HornCity x = inclined(1, 2, 3, 4);
        x.pair(0, 1, true);
        x.pair(2, 3, true);
        due("A and B, the other way round", x.pair(1, 0, false), 1);
        due("A by none", x.told(12), NONE);
        due("B by none", x.told(22), NONE);
        due("C still by D", x.told(32), 3);
        due("C and D", x.pair(2, 3, false), 0);
        due("D by none", x.told(42), NONE);
        due("B and C then", x.pair(1, 2, true), 1);
    }

    private static void promise3Unknown() {
        sentence("Promise 3: UNKNOWN: both there, also one");
        HornCity x = inclined(1, 2);
        for (boolean is : new boolean[] {true, false}) {
            due("both are one, " + is, x.pair(0, 0, is), UNKNOWN);
            due("no first, " + is, x.pair(8, 0, is), UNKNOWN);
            due("no second, " + is, x.pair(0, 8, is), UNKNOWN);
            due("no such first, " + is, x.pair(-1, 0, is), UNKNOWN);
            due("no such second, " + is, x.pair(0, 9, is), UNKNOWN);
            due("NONE as second, " + is, x.pair(0, NONE, is), UNKNOWN);
            due("both one who is not there, " + is, x.pair(5, 5, is), UNKNOWN);
            for (int far : FAR) {
                due("first " + far + ", " + is, x.pair(far, 1, is), UNKNOWN);
                due("second " + far + ", " + is, x.pair(1, far, is), UNKNOWN);
            }
        }
        due("nobody sits", x.told(5), 0);
    }

    private static void promise3State() {
        sentence("Promise 3: STATE: as told.");
        HornCity x = inclined(1, 2, 3, 4);
        due("by none, not", x.pair(0, 1, false), STATE);
        x.pair(0, 1, true);
        due("again", x.pair(0, 1, true), STATE);
        due("again, the other way round", x.pair(1, 0, true), STATE);
        due("the first sits", x.pair(0, 2, true), STATE);
        due("the second sits", x.pair(2, 0, true), STATE);
        due("one sits, not", x.pair(0, 2, false), STATE);
        due("the other sits, not", x.pair(2, 1, false), STATE);
        x.pair(2, 3, true);
        due("both sit by others", x.pair(0, 2, true), STATE);
        due("both sit by others, not", x.pair(0, 2, false), STATE);
        due("pairs", x.told(5), 2);
        due("A by", x.told(12), 1);
        due("C by", x.told(32), 3);
        x.pair(0, 1, false);
        due("not, again", x.pair(0, 1, false), STATE);
    }

    private static void promise4Horn() {
        sentence("Promise 4: What the HORN reads too much: which it was.");
        HornCity x = new HornCity();
        due("to 9", x.horn(9), 0);
        due("to 3", x.horn(3), 9);
        due("to 0", x.horn(0), 3);
        due("told", x.told(2), 0);
    }

    private static void promise4Refused() {
        sentence("Promise 4: OUTSIDE.");
        HornCity x = new HornCity();
        x.horn(3);
        due("-1", x.horn(-1), OUTSIDE);
        due("10", x.horn(10), OUTSIDE);
        for (int far : FAR) {
            due("" + far, x.horn(far), OUTSIDE);
        }
        due("as it was", x.told(2), 3);
    }

    private static void promise5Sign() {
        sentence("Promise 5: A sign more: how many.");
        HornCity x = new HornCity();
        for (int sign = 33; sign <= 92; sign++) {
            due("sign " + sign, x.say(sign), sign - 32);
        }
        x.wipe();
        for (int sign = 93; sign <= 126; sign++) {
            due("sign " + sign, x.say(sign), sign - 92);
        }
        due("told", x.told(0), 34);
    }

    private static void promise5Refused() {
        sentence("Promise 5: OUTSIDE; FULL.");
        HornCity x = new HornCity();
        for (int sign : new int[] {32, 127, 0, -1, 128, 256 + 46, LEAST, MOST}) {
            due("sign " + sign, x.say(sign), OUTSIDE);
        }
        due("none is said", x.told(0), 0);
        write(x, dots(59));
        due("sign 60", x.say('.'), 60);
        due("sign 61", x.say('.'), FULL);
        due("sign 61, another", x.say('A'), FULL);
        due("OUTSIDE ahead of FULL", x.say(127), OUTSIDE);
        due("signs", x.told(0), 60);
        due("all are years", x.then(1), 60);
    }

    private static void promise6SignsGo() {
        sentence("Promise 6: Signs go: how many there were.");
        HornCity x = three();
        due("nothing", x.wipe(), 0);
        write(x, "A+1.");
        due("four", x.wipe(), 4);
        due("none now", x.told(0), 0);
        due("again", x.wipe(), 0);
        due("no fault", x.fault(), NONE);
        write(x, "!".repeat(60));
        due("sixty", x.wipe(), 60);
        due("from the first sign again", x.say('A'), 1);
        due("nobody went", x.told(1), 7);
        due("nothing is DONE", x.told(10), 10);
    }

    private static void fault(String text, int want) {
        HornCity x = write(new HornCity(), text);
        due("of " + text, x.fault(), want);
        due("of " + text + ", again", x.fault(), want);
        due("signs of " + text, x.told(0), text.length());
    }

    private static void promise7Fault() {
        sentence("Promise 7: THE FAULT; NONE.");
        for (String text : new String[] {"", ".", "A+1", "I-9", "A&I", "I&I", "A/", "E:", "I?", "..A+9.B-1A&BC/D:E?."}) {
            fault(text, NONE);
        }
        for (String text : new String[] {"A", "A+", "A-", "A&", ".A", "A:B", "A:B&", "A&BC"}) {
            fault(text, text.length());
        }
        for (String text : new String[] {"J", "@", "a", "+", "&", "/", "?", ":", "1", "J.", "Z+1"}) {
            fault(text, 0);
        }
        for (String text : new String[] {"AA", "A.", "A1", "A=", "A*1", "AJ", "A;", "A!+1"}) {
            fault(text, 1);
        }
        for (String text : new String[] {"A+0", "A-0", "A+:", "A+A", "A&J", "A&@", "A&a", "A&1", "A-/", "A++1", "A&.", ".AA"}) {
            fault(text, 2);
        }
        fault("..J", 2);
        fault("A+1J", 3);
        fault("A+12", 3);
        fault("A:+", 2);
        fault("A/:J+", 2);
        String turns = "C-3".repeat(20);
        fault(turns, NONE);
        fault(turns.substring(0, 59), 59);
        fault(turns.substring(0, 59) + "0", 59);
        fault(turns.substring(0, 58) + "&", 59);
    }

    // ---- 2 years

    private static void promise8Judged() {
        sentence("Promise 8: JUDGED: the ACT (what = 0), why (1); NONE.");
        HornCity x = three();
        judged(x, "", NONE, NONE);
        judged(x, "A+1B-1C:A?.", NONE, NONE);
        judged(x, "D+1", 0, 1);
        judged(x, "A+1I-1", 1, 1);
        judged(x, ".D:", 1, 1);
        judged(x, "A&BA&A", 1, 2);
        judged(x, "A&BA&D", 1, 1);
        judged(x, "A&BA&C", 1, 3);
        judged(x, "A&BC&A", 1, 3);
        judged(x, "A&BC/", 1, 3);
        judged(x, "A&BA/B/", 2, 3);
        judged(x, "A&BB/A&C", NONE, NONE);
        judged(x, "....A/D+1", 4, 3);
        due("signs stay", x.told(0), 9);
        due("nothing is DONE", x.told(3), 0);
        x.pair(0, 1, true);
        judged(x, "B/A&C", NONE, NONE);
        judged(x, "A&C", 0, 3);
    }

    private static void promise8Refused() {
        sentence("Promise 8: OUTSIDE; NO: there is a FAULT.");
        HornCity x = three();
        due("-1", x.judge(-1), OUTSIDE);
        due("2", x.judge(2), OUTSIDE);
        for (int far : FAR) {
            due("" + far, x.judge(far), OUTSIDE);
        }
        for (String text : new String[] {"A", "A/B", "!", "D/J", dots(59) + "A"}) {
            write(x, text);
            due("where, of " + text, x.judge(0), NO);
            due("why, of " + text, x.judge(1), NO);
            due("OUTSIDE ahead of NO, of " + text, x.judge(2), OUTSIDE);
        }
    }

    private static void promise9Done() {
        sentence("Promise 9: YEARS on the PAD are DONE");
        HornCity x = three();
        due("four", write(x, "A+5B-5A&B.").done(), 4);
        due("A", x.told(10), 18);
        due("B", x.told(20), 93);
        due("C", x.told(30), 55);
        due("they sit", x.told(12), 1);
        due("year", x.told(3), 1);
        due("three", write(x, "A/..").done(), 3);
        due("horn", x.told(2), 1);
        due("by none", x.told(22), NONE);
        due("sixty", write(x, dots(60)).done(), 60);
        due("year then", x.told(3), 63);
        x.chalk(0, 10);
        due("chalk in a text", write(x, "A:A?").done(), 2);
        due("is none of the CHALKS", x.told(4), 1);
    }

    private static void promise9PadIsEmpty() {
        sentence("Promise 9: (it is empty then)");
        HornCity x = three();
        due("nothing", x.done(), 0);
        due("done", write(x, "A+5.").done(), 2);
        due("signs", x.told(0), 0);
        due("fault", x.fault(), NONE);
        due("done, again", x.done(), 0);
        due("A, once", x.told(10), 17);
        due("a sign", x.say('.'), 1);
    }

    private static void promise9Refused() {
        sentence("Promise 9: NO: there is a FAULT, or an ACT that can not be.");
        HornCity x = three();
        for (String text : new String[] {"A+1A&D", "A+1A&A", "A+1A/", ".D+1", "A+1A", "A+1!", ".A+", dots(59) + "J"}) {
            due(text, write(x, text).done(), NO);
            due("signs of " + text, x.told(0), text.length());
            due("A behind " + text, x.told(10), 10);
            due("the year behind " + text, x.told(3), 0);
        }
        x.wipe();
        due("an empty PAD then", x.done(), 0);
        due("and an ACT that can be", write(x, "A+1").done(), 1);
    }

    private static void behind(HornCity x, String text, int one, int inclined, int by, int chalked) {
        inclineBehind(x, text, one, inclined);
        mateBehind(x, text, one, by);
        chalkBehind(x, text, one, chalked);
    }

    private static void promise10Behind() {
        sentence("Promise 10: BEHIND: INCLINED (what = 0), by whom (1; NONE), chalked (2; NONE).");
        HornCity x = three();
        behind(x, "", 0, 10, NONE, NONE);
        behind(x, "A+9", 0, 19, NONE, NONE);
        behind(x, "A-9A-9", 0, 172, NONE, NONE);
        behind(x, "B+9B+9B+9B+9B+9B+9B+9B+9B+9", 1, 1, NONE, NONE);
        behind(x, "A&B", 1, 100, 0, NONE);
        behind(x, "A&BB/", 0, 10, NONE, NONE);
        behind(x, ".", 0, 12, NONE, NONE);
        behind(x, ".", 1, 99, NONE, NONE);
        behind(x, "...", 2, 55, NONE, NONE);
        due("nothing is DONE", x.told(10), 10);
    }

    private static void promise10YearsOfTwoWhoSit() {
        sentence("Promise 10: BEHIND: INCLINED (what = 0), by whom (1; NONE)");
        // 90 between them either way: both go by more degrees
        behind(three(), "A&B.", 0, 13, 1, NONE);
        behind(three(), "A&B.", 1, 100, 0, NONE);
        // 45 between them: the one more, the other less
        behind(three(), "A&C.", 0, 13, 2, NONE);
        behind(three(), "A&C.", 2, 54, 0, NONE);
        // a second year sees where the first one left them
        behind(inclined(10, 12), "A&B..", 0, 11, 1, NONE);
        // who sits by none goes as he DRIFTS
        behind(three(), "A&C.", 1, 99, NONE, NONE);
        behind(three(), "A&CA/.", 0, 12, NONE, NONE);
    }

    private static void promise10Chalk() {
        sentence("Promise 10: chalked (2; NONE)");
        HornCity x = three();
        behind(x, "A:", 0, 10, NONE, 10);
        behind(x, "A:", 1, 100, NONE, NONE);
        behind(x, "A?", 0, 10, NONE, 170);
        behind(x, "A:A?", 0, 10, NONE, 170);
        behind(x, "A?A:", 0, 10, NONE, 10);
        behind(x, "A:A+5", 0, 15, NONE, 10);
        behind(x, "..A:", 0, 14, NONE, 15);
        behind(x, "..A?", 0, 14, NONE, 165);
        x.horn(9);
        behind(x, "A:", 0, 10, NONE, 19);
        x.one(3, 175, 0);
        behind(x, "D:", 3, 175, NONE, 4);
        behind(x, "D?", 3, 175, NONE, 176);
        x.one(3, 171, 0);
        behind(x, "D:", 3, 171, NONE, 0);
        behind(x, "D?", 3, 171, NONE, 0);
        x.wipe();
        due("chalk is of the text alone", x.behind(0, 2), NONE);
    }

    private static void promise10Refused() {
        sentence("Promise 10: UNKNOWN: he is not there; OUTSIDE; NO, as of done().");
        HornCity x = three();
        due("not there", x.behind(3, 0), UNKNOWN);
        due("what -1", x.behind(0, -1), OUTSIDE);
        due("what 3", x.behind(0, 3), OUTSIDE);
        due("UNKNOWN ahead of OUTSIDE", x.behind(3, 3), UNKNOWN);
        for (int far : FAR) {
            due("ONE " + far, x.behind(far, 0), UNKNOWN);
            due("what " + far, x.behind(0, far), OUTSIDE);
        }
        due("ONE 9", x.behind(9, 0), UNKNOWN);
        for (String text : new String[] {"A", "A+1J", "A/", "A&A", "A+1D:"}) {
            write(x, text);
            for (int what = 0; what <= 2; what++) {
                due("NO of " + text + ", " + what, x.behind(0, what), NO);
                due("UNKNOWN ahead of NO of " + text, x.behind(3, what), UNKNOWN);
            }
            due("OUTSIDE ahead of NO of " + text, x.behind(0, 3), OUTSIDE);
        }
    }

    private static void then(HornCity x, String text, int horn, int year, int pairs, int act, int who) {
        int[] want = {horn, year, pairs, act, who};
        for (int what = 0; what <= 4; what++) {
            thenBehind(x, text, what, want[what]);
        }
    }

    private static void promise11Then() {
        sentence("Promise 11: BEHIND: the HORN (what = 0), the year (1), pairs (2), the ACT (3; NONE), who (4; NONE).");
        HornCity x = three();
        then(x, "", 0, 0, 0, NONE, NONE);
        then(x, "A&B", 0, 0, 1, NONE, NONE);
        then(x, "A&BA/", 0, 0, 0, NONE, NONE);
        then(x, "A:B:C:", 0, 0, 0, NONE, NONE);
        then(x, "A+1B?C?", 0, 0, 0, 1, 1);
        then(x, "..C:A:", 1, 2, 0, 2, 2);
        x.one(3, 90, 0);
        then(x, "D?", 0, 0, 0, NONE, NONE);
        then(x, "D?D+1D?", 0, 0, 0, 2, 3);
        x.one(3, 0, 0);
        then(x, "D?", 0, 0, 0, NONE, NONE);
        x.horn(4);
        x.one(3, 88, 0);
        then(x, "D?D:", 4, 0, 0, 1, 3);
        then(x, "D?", 4, 0, 0, NONE, NONE);
        due("nothing is DONE", x.told(3), 0);
    }

    private static void promise11Horn() {
        sentence("Promise 11: BEHIND: the HORN (what = 0), the year (1)");
        HornCity x = three();
        then(x, ".", 0, 1, 0, NONE, NONE);
        then(x, "..", 1, 2, 0, NONE, NONE);
        then(x, "...", 1, 3, 0, NONE, NONE);
        then(x, "....", 2, 4, 0, NONE, NONE);
        then(three(), dots(17), 8, 17, 0, NONE, NONE);
        then(three(), dots(18), 9, 18, 0, NONE, NONE);
        then(three(), dots(20), 9, 20, 0, NONE, NONE);
        then(three(), dots(60), 9, 60, 0, NONE, NONE);
        write(x, ".").done();
        then(x, ".", 1, 2, 0, NONE, NONE);
        then(x, "..", 1, 3, 0, NONE, NONE);
    }

    private static void promise11Refused() {
        sentence("Promise 11: OUTSIDE; NO, likewise.");
        HornCity x = three();
        due("-1", x.then(-1), OUTSIDE);
        due("5", x.then(5), OUTSIDE);
        for (int far : FAR) {
            due("" + far, x.then(far), OUTSIDE);
        }
        for (String text : new String[] {"A&", "A+1J", "A/", "A&A", "A+1D:"}) {
            write(x, text);
            for (int what = 0; what <= 4; what++) {
                due("NO of " + text + ", " + what, x.then(what), NO);
            }
            due("OUTSIDE ahead of NO of " + text, x.then(5), OUTSIDE);
        }
    }

    private static void promise12Apart() {
        sentence("Promise 12: APART.");
        HornCity x = inclined(0, 90, 91, 179, 45);
        due("90", x.apart(0, 1), 90);
        due("91", x.apart(0, 2), 89);
        due("over the end", x.apart(0, 3), 1);
        due("over the end, back", x.apart(3, 0), 1);
        due("45", x.apart(4, 1), 45);
        due("of one and himself", x.apart(3, 3), 0);
        write(x, "A+9");
        due("as things are now", x.apart(0, 1), 90);
        x.done();
        due("and then", x.apart(0, 1), 81);
    }

    private static void promise12Unknown() {
        sentence("Promise 12: UNKNOWN: both there.");
        HornCity x = inclined(0, 90);
        due("no second", x.apart(0, 2), UNKNOWN);
        due("no first", x.apart(2, 0), UNKNOWN);
        due("neither", x.apart(2, 2), UNKNOWN);
        due("no such second", x.apart(0, 9), UNKNOWN);
        due("no such first", x.apart(-1, 0), UNKNOWN);
        for (int far : FAR) {
            due("first " + far, x.apart(far, 0), UNKNOWN);
            due("second " + far, x.apart(0, far), UNKNOWN);
        }
    }

    private static void triangles(HornCity x, int count, int first) {
        due("how many", x.triangles(0), count);
        due("the first", x.triangles(1), first);
    }

    private static void promise13Triangles() {
        sentence("Promise 13: TRIANGLES: how many (what = 0), the first (1; NONE).");
        triangles(new HornCity(), 0, NONE);
        triangles(inclined(0, 60), 0, NONE);
        triangles(inclined(0, 20, 40), 1, 7);
        triangles(inclined(0, 19, 40), 0, NONE);
        triangles(inclined(160, 0, 20), 1, 7);
        triangles(inclined(161, 0, 20), 0, NONE);
        triangles(inclined(0, 1, 2, 60, 120), 3, 1 + 8 + 16);
        triangles(inclined(0, 20, 40, 60, 80, 100, 120, 140, 160), 84, 7);
        HornCity x = new HornCity();
        x.one(8, 0, 0);
        x.one(7, 60, 0);
        x.one(5, 120, 0);
        triangles(x, 1, 256 + 128 + 32);
    }

    private static void outsideWhats(String call, int low, int high, WithWhat asked) {
        due(call + " " + (low - 1), asked.of(low - 1), OUTSIDE);
        due(call + " " + (high + 1), asked.of(high + 1), OUTSIDE);
        for (int far : FAR) {
            due(call + " " + far, asked.of(far), OUTSIDE);
        }
        for (int what = low; what <= high; what++) {
            due(call + " " + what + " is not refused", asked.of(what) == OUTSIDE ? 1 : 0, 0);
        }
    }

    private interface WithWhat {
        long of(int what);
    }

    private static void promise13Refused() {
        sentence("Promise 13: OUTSIDE.");
        outsideWhats("triangles, what", 0, 1, new HornCity()::triangles);
        outsideWhats("triangles, what", 0, 1, inclined(0, 60, 120)::triangles);
    }

    // ---- 3 bringing, leaning, halves, meeting

    private static void bring(HornCity x, int to, int a, int b, int c, int count, int first) {
        String call = "to " + to + " by " + a + ", " + b + ", " + c;
        due(call + ": how many", x.bring(0, to, a, b, c, 0), count);
        due(call + ": the first", x.bring(0, to, a, b, c, 1), first);
    }

    private static void promise14Bring() {
        sentence("Promise 14: BRING: how many (what = 0), the first (1); NONE.");
        HornCity x = inclined(10, 0);
        bring(x, 10, 1, 2, 3, 0, NONE);
        bring(x, 13, 3, 5, 7, 1, 0);
        bring(x, 15, 3, 5, 7, 1, 1);
        bring(x, 17, 3, 5, 7, 1, 2);
        bring(x, 7, 3, 5, 7, 1, 3);
        bring(x, 5, 3, 5, 7, 1, 4);
        bring(x, 3, 3, 5, 7, 1, 5);
        // 2 more is 5 less 3 and 7 less 5: the second, then either order
        bring(x, 12, 3, 5, 7, 2, 1);
        bring(x, 11, 2, 4, 6, NONE, NONE);
        bring(x, 0, 1, 1, 1, 10, 3);
        bring(x, 100, 1, 90, 90, 1, 1);
        bring(x, 100, 1, 1, 1, 90, 0);
        bring(x, 9, 179, 179, 179, 1, 0);
        bring(x, 11, 179, 179, 179, 1, 3);
        due("another", x.bring(1, 2, 1, 5, 9, 0), 2);
        due("nothing is turned", x.told(10), 10);
        // as things are now, not behind the text
        write(x, "A+3");
        bring(x, 13, 3, 5, 7, 1, 0);
    }

    private static void promise14Refused() {
        sentence("Promise 14: UNKNOWN: he is not there; OUTSIDE: to 0 to 179, degrees 1 to 179, what.");
        HornCity x = inclined(10, 0);
        due("not there", x.bring(2, 0, 1, 1, 1, 0), UNKNOWN);
        due("9", x.bring(9, 0, 1, 1, 1, 0), UNKNOWN);
        due("-1", x.bring(-1, 0, 1, 1, 1, 0), UNKNOWN);
        due("UNKNOWN ahead of OUTSIDE", x.bring(-1, 180, 0, 0, 0, 2), UNKNOWN);
        outsideWhats("to", 0, 179, to -> x.bring(0, to, 1, 1, 1, 0));
        outsideWhats("a", 1, 179, a -> inclined(10).bring(0, 0, a, 1, 1, 0));
        outsideWhats("b", 1, 179, b -> inclined(10).bring(0, 0, 1, b, 1, 1));
        outsideWhats("c", 1, 179, c -> inclined(10).bring(0, 0, 1, 1, c, 0));
        outsideWhats("what", 0, 1, what -> inclined(10).bring(0, 0, 1, 1, 1, what));
        due("OUTSIDE though he is so", x.bring(0, 10, 1, 1, 180, 0), OUTSIDE);
    }

    private static void lean(HornCity x, int proposal, int sum) {
        due("p", x.lean(0), proposal);
        due("how much", x.lean(1), sum);
    }

    private static void promise15Lean() {
        sentence("Promise 15: LEAN: p (what = 0), how much (1).");
        lean(new HornCity(), 0, 0);
        lean(inclined(77), 77, 0);
        lean(inclined(10, 20), 10, 10);
        lean(inclined(179, 1), 0, 2);
        lean(inclined(0, 90), 0, 90);
        lean(inclined(10, 100, 55), 55, 90);
        // by 170 to 179 and by 0 as much: 0 is the least
        lean(inclined(170, 170, 0, 5), 0, 25);
        lean(inclined(170, 170, 0), 170, 10);
        lean(inclined(179), 179, 0);
    }

    private static void promise15Refused() {
        sentence("Promise 15: OUTSIDE.");
        outsideWhats("lean, what", 0, 1, new HornCity()::lean);
        outsideWhats("lean, what", 0, 1, three()::lean);
    }

    private static void bisect(HornCity x, int sum, int half) {
        due("how much", x.bisect(0), sum);
        due("the half", x.bisect(1), half);
    }

    private static void promise16Bisect() {
        sentence("Promise 16: BISECT: how much (what = 0), the half (1; 0: nobody is there).");
        bisect(new HornCity(), 0, 0);
        bisect(inclined(50), 0, 1);
        bisect(inclined(0, 90), 0, 1);
        bisect(inclined(0, 50, 60), 10, 1);
        bisect(inclined(0, 50, 10), 10, 1 + 4);
        bisect(inclined(10, 100, 55), 45, 1);
        bisect(inclined(0, 90, 1, 89), 2, 1 + 4);
        // three to one would be 0, but is no bisection
        bisect(inclined(0, 0, 0, 90), 90, 1 + 2);
        bisect(inclined(5, 5, 5, 5, 5, 5, 5, 5, 5), 0, 1 + 2 + 4 + 8);
        HornCity x = new HornCity();
        x.one(8, 0, 0);
        x.one(3, 0, 0);
        x.one(6, 90, 0);
        bisect(x, 0, 256 + 8);
    }

    private static void promise16Refused() {
        sentence("Promise 16: OUTSIDE.");
        outsideWhats("bisect, what", 0, 1, new HornCity()::bisect);
        outsideWhats("bisect, what", 0, 1, three()::bisect);
    }

    private static void promise17Meet() {
        sentence("Promise 17: MEET; NONE.");
        HornCity x = three();
        due("A and B", x.meet(0, 1), 30);
        due("B and A", x.meet(1, 0), 30);
        due("never", x.meet(0, 2), NONE);
        due("B and C", x.meet(1, 2), 45);
        due("with himself", x.meet(0, 0), 0);
        x.one(3, 11, 2);
        due("parallel", x.meet(0, 3), NONE);
        x.one(4, 10, -2);
        due("alike now", x.meet(0, 4), 0);
        x.one(5, 56, -1);
        due("one year", x.meet(2, 5), 1);
        x.one(5, 54, -1);
        due("the long way round", x.meet(2, 5), 179);
        x.pair(2, 5, true);
        due("as if alone", x.meet(2, 5), 179);
        x.horn(9);
        due("whatever the horn", x.meet(0, 1), 30);
        write(x, dots(10));
        due("as things are now", x.meet(0, 1), 30);
        x.done();
        due("behind ten years", x.meet(0, 1), 20);
    }

    private static void promise17Unknown() {
        sentence("Promise 17: UNKNOWN: both there.");
        HornCity x = three();
        due("no first", x.meet(8, 0), UNKNOWN);
        due("no second", x.meet(0, 8), UNKNOWN);
        due("neither", x.meet(8, 8), UNKNOWN);
        due("no such first", x.meet(-1, 0), UNKNOWN);
        due("no such second", x.meet(0, 9), UNKNOWN);
        for (int far : FAR) {
            due("first " + far, x.meet(far, 0), UNKNOWN);
            due("second " + far, x.meet(0, far), UNKNOWN);
        }
    }

    // ---- 4 chalks, degrees, weathercocks

    private static void promise18Chalk() {
        sentence("Promise 18: A CHALK more: how many.");
        HornCity x = new HornCity();
        due("first", x.chalk(0, 0), 1);
        due("last year", x.chalk(60, 179), 2);
        due("the same again", x.chalk(60, 179), 3);
        due("the same year otherwise", x.chalk(60, 178), 4);
        due("told", x.told(4), 4);
    }

    private static void promise18Refused() {
        sentence("Promise 18: OUTSIDE; FULL.");
        HornCity x = new HornCity();
        due("-1", x.chalk(-1, 0), OUTSIDE);
        due("61", x.chalk(61, 0), OUTSIDE);
        due("c -1", x.chalk(0, -1), OUTSIDE);
        due("c 180", x.chalk(0, 180), OUTSIDE);
        for (int far : FAR) {
            due("year " + far, x.chalk(far, 0), OUTSIDE);
            due("c " + far, x.chalk(0, far), OUTSIDE);
        }
        due("none", x.told(4), 0);
        for (int count = 1; count <= 8; count++) {
            due("chalk " + count, x.chalk(60, 179), count);
        }
        due("full", x.chalk(60, 179), FULL);
        due("OUTSIDE ahead of FULL, year", x.chalk(61, 179), OUTSIDE);
        due("OUTSIDE ahead of FULL, c", x.chalk(60, 180), OUTSIDE);
        due("eight", x.told(4), 8);
    }

    private static void promise19ChalksGo() {
        sentence("Promise 19: CHALKS go: how many there were.");
        HornCity x = new HornCity();
        due("none", x.forget(), 0);
        x.chalk(0, 10);
        x.chalk(1, 15);
        x.chalk(2, 15);
        due("nothing fits", x.was(0, -1), 0);
        due("three", x.forget(), 3);
        due("none now", x.told(4), 0);
        due("all fit", x.was(0, -1), 3420);
        due("again", x.forget(), 0);
        due("a first again", x.chalk(0, 1), 1);
        for (int count = 2; count <= 8; count++) {
            x.chalk(0, 1);
        }
        due("eight", x.forget(), 8);
    }

    private static void promise20Was() {
        sentence("Promise 20: WAS: how many (i = -1), the i-th");
        HornCity x = new HornCity();
        due("all", x.was(0, -1), 3420);
        due("first", x.was(0, 0), 0);
        due("last", x.was(2, 3419), 20 * 179 + 18);
        x.chalk(0, 10);
        due("of one", x.was(0, -1), 19);
        due("of one, first", x.was(0, 0), 200);
        due("of one, last", x.was(0, 18), 218);
        due("or of its wrong end", x.was(1, -1), 38);
        due("wrong end", x.was(1, 19), 20 * 170);
        x.chalk(1, 12);
        due("of two", x.was(0, -1), 1);
        due("he", x.was(0, 0), 20 * 10 + 2 + 9);
        due("one wrong: he would drift by more than 9", x.was(1, -1), 1);
        due("both wrong", x.was(2, -1), 2);
        due("he then", x.was(2, 1), 20 * 170 - 2 + 9);
        x.forget();
        x.chalk(0, 170);
        x.chalk(1, 11);
        x.chalk(2, 168);
        x.chalk(3, 13);
        x.chalk(4, 14);
        due("two wrong ends", x.was(2, -1), 1);
        due("two wrong ends: he", x.was(2, 0), 20 * 10 + 1 + 9);
        due("one is too few", x.was(1, -1), 0);
        x.chalk(5, 165);
        due("three wrong ends are too many", x.was(2, -1), 0);
        due("ONES are not asked", three().was(0, -1), 3420);
    }

    private static void promise20None() {
        sentence("Promise 20: NONE (i below -1, too)");
        HornCity x = new HornCity();
        due("behind the last", x.was(2, 3420), NONE);
        due("-2", x.was(0, -2), NONE);
        for (int far : FAR) {
            due("" + far, x.was(0, far), far == 1000 ? 20 * (1000 / 19) + 1000 % 19 : NONE);
        }
        x.chalk(0, 10);
        due("the last of one", x.was(1, 37), 20 * 170 + 18);
        due("behind it", x.was(1, 38), NONE);
        due("behind it, w 0", x.was(0, 19), NONE);
        x.chalk(0, 11);
        due("nothing fits: how many", x.was(2, -1), 0);
        due("nothing fits: the first", x.was(2, 0), NONE);
        due("nothing fits: -2", x.was(2, -2), NONE);
    }

    private static void promise20Refused() {
        sentence("Promise 20: OUTSIDE: w.");
        HornCity x = new HornCity();
        x.chalk(0, 10);
        outsideWhats("w", 0, 2, w -> x.was(w, -1));
        outsideWhats("w, the first", 0, 2, w -> x.was(w, 0));
        outsideWhats("w, below -1", 0, 2, w -> x.was(w, -2));
    }

    private static void ask(HornCity x, int year, int many) {
        due("the year", x.ask(0), year);
        due("how many", x.ask(1), many);
    }

    private static void promise21Ask() {
        sentence("Promise 21: ASK: the year (what = 0, 0 to 60), how many (1)");
        HornCity x = new HornCity();
        ask(x, 0, 19);
        x.chalk(0, 10);
        ask(x, 1, 1);
        x.forget();
        // b is 10 less 60 d: in year 0 all whose drifts differ by 3 are alike
        x.chalk(60, 10);
        ask(x, 1, 1);
        x.forget();
        // year 0 parts them all
        x.chalk(1, 10);
        ask(x, 0, 1);
        x.chalk(2, 12);
        ask(x, 0, 1);
    }

    private static void promise21NothingFits() {
        sentence("Promise 21: NONE: nothing fits.");
        HornCity x = new HornCity();
        x.chalk(0, 10);
        x.chalk(1, 20);
        ask(x, NONE, NONE);
        x.forget();
        x.chalk(0, 10);
        x.chalk(0, 11);
        ask(x, NONE, NONE);
        x.forget();
        // but for one from the wrong end they would
        x.chalk(0, 10);
        x.chalk(0, 170);
        ask(x, NONE, NONE);
        due("with one wrong", x.was(1, -1), 38);
    }

    private static void promise21Refused() {
        sentence("Promise 21: OUTSIDE.");
        HornCity x = new HornCity();
        outsideWhats("ask, what", 0, 1, x::ask);
        x.chalk(0, 10);
        x.chalk(0, 11);
        outsideWhats("ask of nothing, what", 0, 1, x::ask);
    }

    private static void promise22Take() {
        sentence("Promise 22: TAKE: whether (what = 0), how many (1; NONE).");
        HornCity x = new HornCity();
        // 2 leaves 1; 3 and 4 leave 2; 5 leaves 4 or 3; 6 and 7 leave 5; 8 leaves 7, 6 or 4
        int[] first = {NONE, 1, NONE, 1, 2, NONE, 1, 2, NONE};
        for (int n = 0; n < first.length; n++) {
            due("whether, of " + n, x.take(n, 0), first[n] == NONE ? 0 : 1);
            due("how many, of " + n, x.take(n, 1), first[n]);
        }
        due("9 takes 1", x.take(9, 1), 1);
        due("10 takes half", x.take(10, 1), 5);
        due("179, whether", x.take(179, 0), 0);
        due("179, how many", x.take(179, 1), NONE);
        due("178, whether", x.take(178, 0), 1);
        due("again, of less", x.take(4, 1), 2);
    }

    private static void promise22Refused() {
        sentence("Promise 22: OUTSIDE.");
        outsideWhats("n", 0, 179, n -> new HornCity().take(n, 0));
        outsideWhats("n, how many", 0, 179, n -> new HornCity().take(n, 1));
        outsideWhats("what", 0, 1, what -> new HornCity().take(5, what));
        outsideWhats("what, of 0", 0, 1, what -> new HornCity().take(0, what));
    }

    private static void cock(int m, int p, int a, int b, int n, int q, long upper, long lower) {
        HornCity x = new HornCity();
        String call = m + " " + p + " " + a + " " + b + " " + n + " " + q;
        due(call + " upper", x.cock(m, p, a, b, n, q, 0), upper);
        due(call + " lower", x.cock(m, p, a, b, n, q, 1), lower);
    }

    private static void promise23Cock() {
        sentence("Promise 23: COCK.");
        cock(3, 0, 5, 0, 1, 1, 1, 2);
        cock(3, 0, 5, 0, 1, 0, 1, 2);
        cock(3, 0, 5, 0, 1, 2, 0, 1);
        cock(3, 0, 5, 2, 1, 2, 1, 5);
        cock(2, 0, 3, 4, 1, 1, 7, 10);
        cock(2, 1, 3, 4, 0, 1, 1, 1);
        cock(2, 1, 3, 4, 0, 0, 0, 1);
        cock(12, 11, 10, 0, 2, 1, 1, 1);
        cock(12, 0, 0, 10, 3, 9, 1, 1);
        cock(5, 2, 0, 0, 16, 2, 1, 1);
        // one way of 10 to the 11th
        cock(12, 0, 1, 0, 11, 11, 1, 100_000_000_000L);
        cock(4, 0, 5, 5, 2, 2, 1, 2);
        cock(7, 3, 3, 4, 16, 5, 1406563212078441L, 10_000_000_000_000_000L);
    }

    private static void promise23Refused() {
        sentence("Promise 23: OUTSIDE: m, p and q 0 to m less 1, a, b, n, part.");
        HornCity x = new HornCity();
        long lost = -1_000_000_000_000_000_002L;
        int[][] outside = {
            {1, 0, 0, 0, 0, 0, 0}, {0, 0, 0, 0, 0, 0, 0}, {13, 0, 0, 0, 0, 0, 0}, {-2, 0, 0, 0, 0, 0, 0},
            {5, -1, 0, 0, 0, 0, 0}, {5, 5, 0, 0, 0, 0, 0}, {2, 2, 0, 0, 0, 0, 0}, {12, 12, 0, 0, 0, 0, 0},
            {5, 0, 0, 0, 0, -1, 0}, {5, 0, 0, 0, 0, 5, 0}, {2, 0, 0, 0, 0, 2, 0}, {12, 0, 0, 0, 0, 12, 0},
            {5, 0, -1, 0, 0, 0, 0}, {5, 0, 11, 0, 0, 0, 0}, {5, 0, 11, -1, 0, 0, 0}, {5, 0, -1, 11, 0, 0, 0},
            {5, 0, 0, -1, 0, 0, 0}, {5, 0, 0, 11, 0, 0, 0}, {5, 0, 5, 6, 0, 0, 0}, {5, 0, 10, 1, 0, 0, 0},
            {5, 0, 1, 10, 0, 0, 0}, {5, 0, 0, 0, -1, 0, 0}, {5, 0, 0, 0, 17, 0, 0},
            {5, 0, 0, 0, 0, 0, -1}, {5, 0, 0, 0, 0, 0, 2}};
        for (int[] row : outside) {
            due(java.util.Arrays.toString(row), x.cock(row[0], row[1], row[2], row[3], row[4], row[5], row[6]), lost);
        }
        for (int far : FAR) {
            for (int place = 0; place < 7; place++) {
                int[] row = {5, 0, 0, 0, 0, 0, 0};
                row[place] = far;
                due(java.util.Arrays.toString(row), x.cock(row[0], row[1], row[2], row[3], row[4], row[5], row[6]), lost);
            }
        }
        due("most, least", x.cock(5, 0, MOST, LEAST, 0, 0, 0), lost);
        due("the ends", x.cock(12, 11, 0, 10, 16, 0, 1), 1);
        due("the other ends", x.cock(2, 1, 10, 0, 16, 1, 0), 1);
        due("five and five", x.cock(2, 0, 5, 5, 16, 0, 0), 1);
    }

    private static void promise24Book() {
        sentence("Promise 24: A YEAR-BOOK: INCLINES (what = 0), pairs (1), TRIANGLES (2).");
        HornCity x = three();
        // 74: C, draw 0, z 1: he turns by 2
        due("one ACT: INCLINES", x.book(0, 1, 0), 167);
        due("one ACT: pairs", x.book(0, 1, 1), 0);
        due("one ACT: TRIANGLES", x.book(0, 1, 2), 1);
        due("of 77", x.book(77, 99, 0), 240);
        due("of 77: pairs", x.book(77, 99, 1), 1);
        due("of 77: TRIANGLES", x.book(77, 99, 2), 0);
        due("nothing is DONE", x.told(10), 10);
        due("nor the year", x.told(3), 0);
        due("again", x.book(77, 99, 0), 240);
        due("of nobody", new HornCity().book(9999, 99, 0), 0);
        // seed 1: 149 is F, draw 0, z 2; he is not there
        due("who is not there does not turn", x.book(1, 1, 0), 165);
        x.one(5, 0, 0);
        due("who is there does", x.book(1, 1, 0), 165 + 3);
        write(x, "A+9");
        due("the PAD is not asked", x.book(0, 1, 0), 167);
        due("nor changed", x.told(0), 3);
    }

    private static void promise24Refused() {
        sentence("Promise 24: OUTSIDE.");
        HornCity x = three();
        due("seed -1", x.book(-1, 1, 0), OUTSIDE);
        due("seed 10000", x.book(10000, 1, 0), OUTSIDE);
        for (int what = 0; what <= 2; what++) {
            due("seed 0 is not, " + what, x.book(0, 1, what) >= 0 ? 1 : 0, 1);
            due("seed 9999 is not, " + what, x.book(9999, 99, what) >= 0 ? 1 : 0, 1);
        }
        due("seed LEAST", x.book(LEAST, 1, 0), OUTSIDE);
        due("seed MOST", x.book(MOST, 1, 0), OUTSIDE);
        outsideWhats("m", 1, 99, m -> x.book(0, m, 0));
        outsideWhats("what", 0, 2, what -> x.book(0, 1, what));
    }

    private static void promise25Kept() {
        sentence("Promise 25: is kept in an IMAGE (0, 1): 1.");
        HornCity x = three();
        due("first", x.image(0), 1);
        x.one(0, 99, 9);
        due("second", x.image(1), 1);
        x.restore(0);
        due("first is its own", x.told(10), 10);
        x.restore(1);
        due("second is its own", x.told(10), 99);
        due("anew", x.image(0), 1);
        x.one(0, 1, 1);
        x.restore(0);
        due("the newest is kept", x.told(10), 99);
    }

    private static void promise25AllButThePad() {
        sentence("Promise 25: All but the PAD");
        HornCity x = write(three(), "A+9");
        x.image(0);
        due("signs stay", x.told(0), 3);
        x.wipe();
        x.restore(0);
        due("signs are not brought back", x.told(0), 0);
        write(x, dots(60));
        x.image(1);
        x.restore(0);
        due("nor taken away", x.told(0), 60);
        due("they are still told", x.then(1), 60);
        x.done();
        due("the year", x.told(3), 60);
        x.restore(1);
        due("the year it was", x.told(3), 0);
        due("DONE as it was", x.told(0), 0);
    }

    private static void promise25Refused() {
        sentence("Promise 25: OUTSIDE.");
        HornCity x = three();
        due("-1", x.image(-1), OUTSIDE);
        due("2", x.image(2), OUTSIDE);
        for (int far : FAR) {
            due("" + far, x.image(far), OUTSIDE);
        }
        due("refused keeps nothing", x.restore(0), STATE);
        due("refused keeps nothing", x.restore(1), STATE);
    }

    private static void promise26Restored() {
        sentence("Promise 26: It is as it was when it was kept: 1.");
        HornCity x = three();
        x.pair(0, 1, true);
        x.horn(5);
        x.chalk(0, 10);
        write(x, ".").done();
        x.image(1);
        x.one(3, 1, 1);
        x.one(0, 7, 7);
        x.horn(0);
        x.chalk(1, 1);
        write(x, "..A:").done();
        write(x, "B+1");
        due("kept", x.restore(1), 1);
        due("ONES", x.told(1), 7);
        due("inclined", x.told(10), 13);
        due("drifts", x.told(11), 11);
        due("by whom", x.told(12), 1);
        due("by whom, back", x.told(22), 0);
        due("the horn", x.told(2), 5);
        due("the year", x.told(3), 1);
        due("the CHALKS", x.told(4), 1);
        due("the CHALKS themselves", x.was(0, 0), 200);
        due("but the PAD", x.told(0), 3);
        x.one(0, 50, 0);
        x.forget();
        x.chalk(0, 20);
        due("again", x.restore(1), 1);
        due("as it was", x.told(10), 13);
        due("CHALKS as they were", x.was(0, 0), 200);
        x.forget();
        x.chalk(7, 10);
        x.image(0);
        x.forget();
        x.chalk(3, 20);
        x.restore(0);
        // by 3 and 1 he comes to 10 in year 7
        due("CHALKS with their years", x.was(0, 0), 20 * 3 + 1 + 9);
        eightChalksKept();
        HornCity nobody = new HornCity();
        nobody.image(0);
        nobody.one(4, 4, 4);
        due("nobody", nobody.restore(0), 1);
        due("nobody is there", nobody.told(1), 0);
    }

    /** By 10 and 1: all fit, and each is asked as it was kept. */
    private static void eightChalksKept() {
        for (int other = 0; other < 8; other++) {
            HornCity x = new HornCity();
            for (int year = 0; year < 8; year++) {
                x.chalk(year, 10 + year + (year == other ? 1 : 0));
            }
            x.image(0);
            x.forget();
            for (int year = 0; year < 8; year++) {
                x.chalk(year, 10 + year);
            }
            due("eight that fit", x.was(0, -1), 1);
            x.image(1);
            x.restore(0);
            due("eight, " + other + " of them not", x.was(0, -1), 0);
            x.restore(1);
            due("eight that fit, brought back", x.was(0, 0), 210);
        }
    }

    private static void promise26Outside() {
        sentence("Promise 26: OUTSIDE");
        HornCity x = three();
        x.image(0);
        x.image(1);
        due("-1", x.restore(-1), OUTSIDE);
        due("2", x.restore(2), OUTSIDE);
        for (int far : FAR) {
            due("" + far, x.restore(far), OUTSIDE);
        }
        due("0", x.restore(0), 1);
        due("1", x.restore(1), 1);
    }

    private static void promise26State() {
        sentence("Promise 26: STATE: it was not.");
        HornCity x = three();
        due("0", x.restore(0), STATE);
        due("1", x.restore(1), STATE);
        x.image(1);
        due("0, 1 being kept", x.restore(0), STATE);
        due("1", x.restore(1), 1);
        due("0, 1 being brought back", x.restore(0), STATE);
        HornCity y = three();
        y.image(0);
        due("1, 0 being kept", y.restore(1), STATE);
        due("0", y.restore(0), 1);
        due("as it was", y.told(1), 7);
    }

    private static HornCity toTellOf() {
        HornCity x = three();
        x.one(8, 179, -9);
        x.pair(0, 8, true);
        x.horn(7);
        x.chalk(3, 3);
        x.chalk(4, 4);
        return write(x, "A+1.");
    }

    private static void promise27Told() {
        sentence("Promise 27: 0 signs, 1 ONES (bits), 2 what the HORN reads too much, 3 the year, 4 CHALKS, 5 pairs");
        HornCity x = toTellOf();
        int[] told = {4, 7 + 256, 7, 0, 2, 1};
        for (int what = 0; what <= 5; what++) {
            due("told(" + what + ")", x.told(what), told[what]);
        }
        due("done", x.done(), 2);
        due("the year", x.told(3), 1);
        due("signs", x.told(0), 0);
        sentence("Promise 27: 10 times (1 and a ONE that is there) and 0 INCLINED, 1 DRIFTS and 9, 2 by whom he sits"
                + " (NONE).");
        HornCity y = toTellOf();
        int[][] ones = {{10, 10, 11, 8}, {20, 100, 8, NONE}, {30, 55, 9, NONE}, {90, 179, 0, 0}};
        for (int[] one : ones) {
            for (int part = 0; part <= 2; part++) {
                due("told(" + (one[0] + part) + ")", y.told(one[0] + part), one[1 + part]);
            }
        }
    }

    private static void promise27Refused() {
        sentence("Promise 27: OUTSIDE.");
        HornCity x = toTellOf();
        for (int what = -20; what <= 120; what++) {
            int one = Math.floorDiv(what, 10) - 1, part = Math.floorMod(what, 10);
            boolean is = what >= 0 && what <= 5 || (one >= 0 && one <= 2 || one == 8) && part <= 2;
            if (!is) {
                due("told(" + what + ")", x.told(what), OUTSIDE);
            }
        }
        for (int far : FAR) {
            due("told(" + far + ")", x.told(far), OUTSIDE);
        }
        HornCity y = new HornCity();
        for (int what = 6; what <= 99; what++) {
            due("told(" + what + ") of nobody", y.told(what), OUTSIDE);
        }
    }
}
