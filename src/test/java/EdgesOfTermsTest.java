/**
 * Each sentence of the document's terms that names a boundary case has a test of its own here,
 * in the document's order and under the document's words. No object is used for more than 512 calls,
 * but for the year 999, which can not be come to within them.
 */
public final class EdgesOfTermsTest extends Cities {
    public static void main(String[] args) {
        all512Calls();
        firstRefusalThatFits();
        refusalsChangeNothing();
        fractionsInLowestTerms();
        lostAndTheRefusal();
        setsAreBits();
        ones0To8();
        noneAtFirst();
        leftOverBy180();
        drifts();
        sitsByHimToo();
        hornReads();
        year0AtFirst();
        apart();
        padOf60();
        turnMore();
        turnBack();
        sitBy();
        sitByNone();
        chalked();
        chalkedFromTheWrongEnd();
        yearAllAtOnce();
        yearFewerBetween();
        yearAsAheadOfIt();
        yearAsMany();
        yearAlike();
        yearOfTheHorn();
        firstSignThatCanNotStand();
        moreMustCome();
        emptyPad();
        leastReason();
        noSuchOne();
        bothAreOne();
        oneSitsBySomebody();
        sitsByNone();
        year999();
        firstActThatCanNotBe();
        doneIsSo();
        ofAOne();
        chalkedLast();
        ofAll();
        chalkedOtherwise();
        notBeingDone();
        trianglesBy20();
        firstTriangle();
        asThingsAreNow();
        bringByTold();
        bringHowMany();
        bringFirstTurn();
        bringNone();
        leanLeast();
        bisectHalves();
        bisectHalfOfTheLeast();
        meetAlone();
        meetYears();
        somebody();
        chalks8();
        chalksInYears();
        wasCodes();
        wasButW();
        wasOtherEnd();
        wasRising();
        askFewest();
        askLeast();
        takeTwoByTurns();
        takeWhether();
        takeTheLeast();
        cockOnARing();
        bookDraws();
        bookOneAndDrawAndZ();
        bookEachActOfADraw();
        bookIfThatCanBe();
        bookAnswers();
        bookIsNotDone();
        Due.finish("EdgesOfTermsTest");
    }

    private static void all512Calls() {
        sentence("An object is used for at most 512 calls after it has been made");
        HornCity x = new HornCity();
        for (int call = 1; call <= 511; call++) {
            due("horn(), call " + call, x.horn(call % 10), (call - 1) % 10);
        }
        due("told(2), call 512", x.told(2), 1);
        HornCity signs = new HornCity();
        for (int call = 1; call <= 511; call++) {
            due("say(46), call " + call, signs.say('.'), call <= 60 ? call : FULL);
        }
        due("done(), call 512", signs.done(), 60);
    }

    // ---- refusals

    private static void firstRefusalThatFits() {
        sentence("the first of these that fits: UNKNOWN -1 (there is no such ONE), OUTSIDE -2 (another number is not"
                + " as told), NO -5 (as told), STATE -3 (as told), FULL -4.");
        HornCity x = three();
        due("UNKNOWN ahead of OUTSIDE, one", x.one(9, 180, 10), -1);
        due("UNKNOWN ahead of OUTSIDE, bring", x.bring(8, 180, 0, 180, -1, 2), -1);
        x.pair(0, 1, true);
        due("UNKNOWN ahead of STATE, who sits and nobody", x.pair(0, 8, true), -1);
        due("UNKNOWN ahead of STATE, nobody and who sits", x.pair(8, 0, true), -1);
        due("UNKNOWN ahead of STATE, one who sits and himself", x.pair(0, 0, true), -1);
        due("UNKNOWN ahead of STATE, not sitting by nobody", x.pair(2, 8, false), -1);
        for (String text : new String[] {"A", "A&A", "+", "C/"}) {
            write(x, text);
            due("UNKNOWN ahead of OUTSIDE and NO, behind, " + text, x.behind(3, 3), -1);
            due("UNKNOWN ahead of NO, behind, " + text, x.behind(3, 0), -1);
            due("OUTSIDE ahead of NO, behind, " + text, x.behind(0, 3), -2);
            due("OUTSIDE ahead of NO, then, " + text, x.then(5), -2);
            due("OUTSIDE ahead of NO, judge, " + text, x.judge(2), -2);
        }
        due("OUTSIDE ahead of STATE, restore(2)", x.restore(2), -2);
        due("OUTSIDE ahead of STATE, restore(-1)", x.restore(-1), -2);
        write(x, dots(60));
        due("OUTSIDE ahead of FULL, say(32)", x.say(32), -2);
        due("OUTSIDE ahead of FULL, say(127)", x.say(127), -2);
        for (int i = 0; i < 8; i++) {
            x.chalk(i, i);
        }
        due("OUTSIDE ahead of FULL, chalk(61, 0)", x.chalk(61, 0), -2);
        due("OUTSIDE ahead of FULL, chalk(0, 180)", x.chalk(0, 180), -2);
        due("STATE", x.restore(0), -3);
        due("FULL, say", x.say('.'), -4);
        due("FULL, chalk", x.chalk(0, 0), -4);
        due("NO", write(x, "A").done(), -5);
    }

    private interface Call {
        long of(HornCity x);
    }

    /** Full of all: an image kept, and other people now, eight CHALKS, 60 signs. */
    private static HornCity rich(String text) {
        HornCity x = three();
        x.chalk(7, 24);
        x.image(0);
        x.one(8, 179, -9);
        x.pair(0, 8, true);
        x.horn(3);
        for (int i = 0; i < 7; i++) {
            x.chalk(60 - i, 130 - 2 * i);
        }
        return write(x, text);
    }

    private static String shown(HornCity x) {
        StringBuilder all = new StringBuilder();
        for (int what = 0; what <= 5; what++) {
            all.append(x.told(what)).append(' ');
        }
        for (int one = 0; one <= 8; one++) {
            for (int part = 0; part <= 2; part++) {
                all.append(x.told(10 + 10 * one + part)).append(' ');
            }
        }
        return all.append(x.fault()).append(' ').append(x.judge(0)).append(' ').append(x.judge(1)).append(' ')
                .append(x.was(2, -1)).append(' ').append(x.was(2, 0)).append(' ').append(x.then(1)).toString();
    }

    /** All that can be seen afterwards, now and as image 0 has it, is as without the call. */
    private static void changesNothing(String call, String text, Call asked, long want) {
        HornCity x = rich(text), untouched = rich(text);
        due(call, asked.of(x), want);
        due(call + " changes what is", shown(x).equals(shown(untouched)) ? 0 : 1, 0);
        due(call + " keeps image 1", x.restore(1), STATE);
        x.restore(0);
        untouched.restore(0);
        due(call + " changes the image", shown(x).equals(shown(untouched)) ? 0 : 1, 0);
    }

    private static void refusalsChangeNothing() {
        sentence("They change nothing.");
        String full = dots(60);
        changesNothing("one(9, ..)", full, x -> x.one(9, 1, 1), UNKNOWN);
        changesNothing("one(-1, ..)", full, x -> x.one(-1, 1, 1), UNKNOWN);
        changesNothing("one(0, 180, 1)", full, x -> x.one(0, 180, 1), OUTSIDE);
        changesNothing("one(0, -1, 1)", full, x -> x.one(0, -1, 1), OUTSIDE);
        changesNothing("one(0, 1, 10)", full, x -> x.one(0, 1, 10), OUTSIDE);
        changesNothing("one(3, 1, -10)", full, x -> x.one(3, 1, -10), OUTSIDE);
        changesNothing("pair(1, 3, true)", full, x -> x.pair(1, 3, true), UNKNOWN);
        changesNothing("pair(1, 1, true)", full, x -> x.pair(1, 1, true), UNKNOWN);
        changesNothing("pair(0, 0, false)", full, x -> x.pair(0, 0, false), UNKNOWN);
        changesNothing("pair(0, 1, true)", full, x -> x.pair(0, 1, true), STATE);
        changesNothing("pair(1, 8, true)", full, x -> x.pair(1, 8, true), STATE);
        changesNothing("pair(0, 8, true)", full, x -> x.pair(0, 8, true), STATE);
        changesNothing("pair(0, 1, false)", full, x -> x.pair(0, 1, false), STATE);
        changesNothing("pair(1, 8, false)", full, x -> x.pair(1, 8, false), STATE);
        changesNothing("pair(1, 2, false)", full, x -> x.pair(1, 2, false), STATE);
        changesNothing("horn(10)", full, x -> x.horn(10), OUTSIDE);
        changesNothing("horn(-1)", full, x -> x.horn(-1), OUTSIDE);
        changesNothing("say(32)", "A+1.", x -> x.say(32), OUTSIDE);
        changesNothing("say(127)", "A+1.", x -> x.say(127), OUTSIDE);
        changesNothing("say(46), the 61st", full, x -> x.say('.'), FULL);
        changesNothing("say(65), the 61st", full, x -> x.say('A'), FULL);
        changesNothing("done(), a FAULT", ".A+9A", HornCity::done, NO);
        changesNothing("done(), an ACT that can not be", ".A+9B+9..A/A/", HornCity::done, NO);
        changesNothing("chalk(61, 0)", full, x -> x.chalk(61, 0), OUTSIDE);
        changesNothing("chalk(0, 0), the ninth", full, x -> x.chalk(0, 0), FULL);
        changesNothing("image(-1)", full, x -> x.image(-1), OUTSIDE);
        changesNothing("image(2)", full, x -> x.image(2), OUTSIDE);
        changesNothing("restore(-1)", full, x -> x.restore(-1), OUTSIDE);
        changesNothing("restore(2)", full, x -> x.restore(2), OUTSIDE);
        changesNothing("restore(1), not kept", full, x -> x.restore(1), STATE);
        HornCity x = new HornCity();
        x.chalk(-1, 7);
        x.chalk(0, 180);
        due("CHALKS of one that was refused", x.was(0, -1), 3420);
    }

    private static void fraction(int m, int p, int a, int b, int n, int q, long upper, long lower) {
        String call = "cock(" + m + ", " + p + ", " + a + ", " + b + ", " + n + ", " + q + ", ";
        HornCity x = new HornCity();
        due(call + "0)", x.cock(m, p, a, b, n, q, 0), upper);
        due(call + "1)", x.cock(m, p, a, b, n, q, 1), lower);
    }

    private static void fractionsInLowestTerms() {
        sentence("Fractions are told in lowest terms by part: 0 the upper, 1 the lower number");
        fraction(3, 0, 5, 0, 1, 1, 1, 2);
        fraction(3, 0, 4, 2, 1, 2, 1, 5);
        fraction(3, 0, 3, 0, 1, 0, 7, 10);
        fraction(2, 0, 5, 5, 3, 1, 1, 1);
        fraction(2, 0, 5, 5, 3, 0, 0, 1);
        fraction(12, 3, 0, 0, 16, 4, 0, 1);
        fraction(12, 3, 0, 0, 16, 3, 1, 1);
    }

    private static void lostAndTheRefusal() {
        sentence("refused with LOST and the refusal together (OUTSIDE: LOST less 2)");
        HornCity x = new HornCity();
        due("cock of m 1, upper", x.cock(1, 0, 0, 0, 0, 0, 0), -1_000_000_000_000_000_002L);
        due("cock of m 1, lower", x.cock(1, 0, 0, 0, 0, 0, 1), -1_000_000_000_000_000_002L);
        due("cock of part 2", x.cock(2, 0, 0, 0, 0, 0, 2), -1_000_000_000_000_000_002L);
    }

    private static void setsAreBits() {
        sentence("Sets are bits.");
        HornCity x = new HornCity();
        for (int one = 0; one <= 8; one++) {
            x.one(one, 20 * one, 0);
            due("told(1), A to " + (char) ('A' + one), x.told(1), (1 << one + 1) - 1);
        }
        HornCity ends = new HornCity();
        ends.one(8, 60, 0);
        ends.one(0, 0, 0);
        due("told(1), A and I", ends.told(1), 257);
        ends.one(4, 120, 0);
        due("triangles(1), A, E and I", ends.triangles(1), 1 + 16 + 256);
    }

    // ---- 1 ONES, the HORN, YEARS

    private static void ones0To8() {
        sentence("ONES 0 to 8 (A to I)");
        HornCity x = new HornCity();
        due("one(-1)", x.one(-1, 10, 0), UNKNOWN);
        due("one(9)", x.one(9, 10, 0), UNKNOWN);
        due("one(0)", x.one(0, 10, 0), 1);
        due("one(8)", x.one(8, 20, 0), 2);
        inclineBehind(x, "A+1I+3", 0, 11);
        inclineBehind(x, "A+1I+3", 8, 23);
        faultOf("A:", NONE);
        faultOf("I:", NONE);
        faultOf("@:", 0);
        faultOf("J:", 0);
        faultOf("a:", 0);
    }

    private static void noneAtFirst() {
        sentence("none of whom are there at first");
        HornCity x = new HornCity();
        due("told(1)", x.told(1), 0);
        for (int one = 0; one <= 8; one++) {
            due("told of ONE " + one, x.told(10 + 10 * one), OUTSIDE);
            due("behind of ONE " + one, x.behind(one, 0), UNKNOWN);
            judged(x, (char) ('A' + one) + ":", 0, 1);
            x.wipe();
        }
    }

    private static void leftOverBy180() {
        sentence("each is INCLINED by 0 to 179 degrees (all numbers of degrees are left over by 180)");
        HornCity x = new HornCity();
        due("one, 0", x.one(0, 0, 0), 1);
        due("one, 179", x.one(1, 179, 0), 2);
        due("one, -1", x.one(2, -1, 0), OUTSIDE);
        due("one, 180", x.one(2, 180, 0), OUTSIDE);
        inclineBehind(x, "B+1", 1, 0);
        inclineBehind(x, "B+9", 1, 8);
        inclineBehind(x, "A-1", 0, 179);
        inclineBehind(x, "A-9", 0, 171);
        inclineBehind(x, "A-1A+1", 0, 0);
        inclineBehind(alone(171, 9), ".", 0, 0);
        inclineBehind(alone(170, 9), ".", 0, 179);
        inclineBehind(alone(9, -9), ".", 0, 0);
        inclineBehind(alone(8, -9), ".", 0, 179);
        inclineBehind(alone(0, 9), dots(60), 0, 0);
        inclineBehind(alone(5, -9), dots(41), 0, 176);
        x.horn(9);
        chalkBehind(x, "B:", 1, 8);
        chalkBehind(x, "B-8B:", 1, 0);
        chalkBehind(x, "B-9B:", 1, 179);
        HornCity done = inclined(179, 0);
        write(done, "A+1B-1").done();
        due("A is INCLINED by", done.told(10), 0);
        due("B is INCLINED by", done.told(20), 179);
    }

    private static void drifts() {
        sentence("DRIFTS by -9 to 9 a year");
        HornCity x = new HornCity();
        due("one, -10", x.one(0, 90, -10), OUTSIDE);
        due("one, 10", x.one(0, 90, 10), OUTSIDE);
        due("one, -9", x.one(0, 90, -9), 1);
        due("one, 9", x.one(1, 90, 9), 2);
        due("one, 0", x.one(2, 90, 0), 3);
        inclineBehind(x, ".", 0, 81);
        inclineBehind(x, ".", 1, 99);
        inclineBehind(x, ".", 2, 90);
        due("DRIFTS -9", x.told(11), 0);
        due("DRIFTS 9", x.told(21), 18);
    }

    private static void sitsByHimToo() {
        sentence("sits by another ONE or by none (if one sits by another, that one sits by him, too)");
        HornCity x = inclined(10, 20, 30);
        x.pair(0, 8, true);
        for (int one = 0; one <= 2; one++) {
            due("by none, ONE " + one, x.told(12 + 10 * one), NONE);
        }
        x.pair(2, 0, true);
        due("C by A", x.told(32), 0);
        due("A by C", x.told(12), 2);
        due("B by none", x.told(22), NONE);
        mateBehind(x, "C/A&B", 0, 1);
        mateBehind(x, "C/A&B", 1, 0);
        mateBehind(x, "C/A&B", 2, NONE);
        x.one(0, 10, 0);
        due("C, A being anew", x.told(32), NONE);
        due("A, being anew", x.told(12), NONE);
    }

    private static void hornReads() {
        sentence("The HORN reads by 0 to 9 degrees too much (0 at first).");
        HornCity x = inclined(40);
        due("told(2)", x.told(2), 0);
        chalkBehind(x, "A:", 0, 40);
        due("horn(-1)", x.horn(-1), OUTSIDE);
        due("horn(10)", x.horn(10), OUTSIDE);
        due("horn(9)", x.horn(9), 0);
        chalkBehind(x, "A:", 0, 49);
        due("horn(0)", x.horn(0), 9);
        chalkBehind(x, "A:", 0, 40);
    }

    private static void year0AtFirst() {
        sentence("It is year 0 at first.");
        HornCity x = new HornCity();
        due("told(3)", x.told(3), 0);
        due("then(1)", x.then(1), 0);
        thenBehind(x, ".", 1, 1);
        thenBehind(x, dots(60), 1, 60);
    }

    private static void apart() {
        sentence("APART of two INCLINES: the fewer degrees from one to the other, either way round (0 to 90).");
        int[][] apart = {{0, 0, 0}, {179, 179, 0}, {0, 1, 1}, {0, 89, 89}, {0, 90, 90}, {0, 91, 89}, {0, 179, 1},
            {179, 1, 2}, {10, 100, 90}, {10, 101, 89}, {89, 179, 90}, {88, 179, 89}, {45, 135, 90}, {170, 5, 15}};
        for (int[] row : apart) {
            HornCity x = inclined(row[0], row[1]);
            due(row[0] + " from " + row[1], x.apart(0, 1), row[2]);
            due(row[1] + " from " + row[0], x.apart(1, 0), row[2]);
        }
    }

    private static void padOf60() {
        sentence("a PAD (60 SIGNS at most, codes 33 to 126)");
        HornCity x = new HornCity();
        due("say(32)", x.say(32), OUTSIDE);
        due("say(33)", x.say(33), 1);
        due("say(126)", x.say(126), 2);
        due("say(127)", x.say(127), OUTSIDE);
        for (int signs = 3; signs <= 60; signs++) {
            due("say(46), sign " + signs, x.say('.'), signs);
        }
        due("say(46), sign 61", x.say('.'), FULL);
        due("told(0)", x.told(0), 60);
    }

    private static void turnMore() {
        sentence("+ and a digit 1 to 9 (he turns by so many degrees)");
        for (int by = 1; by <= 9; by++) {
            inclineBehind(three(), "A+" + by, 0, 10 + by);
        }
        inclineBehind(three(), "A+9", 1, 100);
        faultOf("A+0", 2);
        faultOf("A+:", 2);
        faultOf("A+/", 2);
        faultOf("A+A", 2);
        faultOf("A+11", 3);
    }

    private static void turnBack() {
        sentence("- and a digit 1 to 9 (back by so many)");
        for (int by = 1; by <= 9; by++) {
            inclineBehind(three(), "A-" + by, 0, 10 - by);
        }
        inclineBehind(three(), "A-9", 1, 100);
        faultOf("A-0", 2);
        faultOf("A-:", 2);
        faultOf("A-/", 2);
        faultOf("A--", 2);
    }

    private static void sitBy() {
        sentence("& and a ONE's letter (they sit by each other then)");
        HornCity x = three();
        x.one(8, 1, 1);
        mateBehind(x, "A&I", 0, 8);
        mateBehind(x, "A&I", 8, 0);
        mateBehind(x, "I&A", 8, 0);
        mateBehind(x, "I&A", 1, NONE);
        faultOf("A&A", NONE);
        faultOf("A&@", 2);
        faultOf("A&J", 2);
        faultOf("A&1", 2);
        faultOf("A&a", 2);
    }

    private static void sitByNone() {
        sentence("/ (he, and who sits by him, sit by none then)");
        HornCity x = inclined(1, 2, 3, 4);
        x.pair(0, 1, true);
        x.pair(2, 3, true);
        for (String text : new String[] {"A/", "B/"}) {
            mateBehind(x, text, 0, NONE);
            mateBehind(x, text, 1, NONE);
            mateBehind(x, text, 2, 3);
            mateBehind(x, text, 3, 2);
            thenBehind(x, text, 2, 1);
        }
        thenBehind(x, "A/D/", 2, 0);
    }

    private static void chalked() {
        sentence(": (he is chalked: with what he is INCLINED by, and what the HORN reads too much)");
        chalkBehind(inclined(0), "A:", 0, 0);
        chalkBehind(inclined(179), "A:", 0, 179);
        int[][] read = {{0, 9}, {90, 99}, {170, 179}, {171, 0}, {179, 8}};
        for (int[] row : read) {
            HornCity x = inclined(row[0]);
            x.horn(9);
            chalkBehind(x, "A:", 0, row[1]);
            inclineBehind(x, "A:", 0, row[0]);
        }
        HornCity x = inclined(179);
        x.horn(1);
        chalkBehind(x, "A:", 0, 0);
        // as he and the HORN are at that place in the text
        chalkBehind(inclined(10), "A+3A:A+4", 0, 13);
        chalkBehind(inclined(10), "..A:..", 0, 11);
    }

    private static void chalkedFromTheWrongEnd() {
        sentence("? (he is chalked from the wrong end: with 180 less that)");
        int[][] read = {{0, 0, 0}, {1, 0, 179}, {90, 0, 90}, {89, 0, 91}, {179, 0, 1}, {0, 9, 171}, {171, 9, 0},
            {172, 9, 179}, {170, 9, 1}, {81, 9, 90}, {179, 1, 0}, {179, 9, 172}};
        for (int[] row : read) {
            HornCity x = inclined(row[0]);
            x.horn(row[1]);
            chalkBehind(x, "A?", 0, row[2]);
            inclineBehind(x, "A?", 0, row[0]);
        }
    }

    private static void yearAllAtOnce() {
        sentence(". (a year: all at once, each is INCLINED by as much more as he DRIFTS");
        HornCity x = three();
        x.one(8, 175, 9);
        inclineBehind(x, ".", 0, 12);
        inclineBehind(x, ".", 1, 99);
        inclineBehind(x, ".", 2, 55);
        inclineBehind(x, ".", 8, 4);
        inclineBehind(x, "A&B.", 2, 55);
        // they change places: where the one has gone to is not seen by the other
        HornCity near = inclined(10, 11);
        inclineBehind(near, "A&B.", 0, 11);
        inclineBehind(near, "A&B.", 1, 10);
        inclineBehind(near, "B&A.", 0, 11);
        inclineBehind(near, "B&A.", 1, 10);
    }

    private static void bothBehind(int a, int b, int thenA, int thenB) {
        HornCity x = inclined(a, b);
        x.pair(0, 1, true);
        inclineBehind(x, ".", 0, thenA);
        inclineBehind(x, ".", 1, thenB);
        // as it is, so it is the other way round
        HornCity y = inclined(b, a);
        y.pair(0, 1, true);
        inclineBehind(y, ".", 0, thenB);
        inclineBehind(y, ".", 1, thenA);
    }

    private static void yearFewerBetween() {
        sentence("each who sits by another one goes a degree more, that way round by which fewer are between them");
        bothBehind(0, 89, 1, 88);
        bothBehind(0, 91, 179, 92);
        bothBehind(179, 0, 0, 179);
        bothBehind(1, 179, 0, 0);
        bothBehind(10, 12, 11, 11);
        bothBehind(100, 11, 99, 12);
        bothBehind(100, 9, 101, 8);
    }

    private static void yearAsAheadOfIt() {
        sentence("as they were ahead of the year");
        // drifting takes them past each other
        HornCity x = new HornCity();
        x.one(0, 10, 9);
        x.one(1, 12, -9);
        x.pair(0, 1, true);
        inclineBehind(x, ".", 0, 20);
        inclineBehind(x, ".", 1, 2);
        // drifting makes them alike
        HornCity y = new HornCity();
        y.one(0, 10, 1);
        y.one(1, 11, 0);
        y.pair(0, 1, true);
        inclineBehind(y, ".", 0, 12);
        inclineBehind(y, ".", 1, 10);
        // and these are alike ahead of it, and not behind it
        HornCity z = new HornCity();
        z.one(0, 10, 1);
        z.one(1, 10, 0);
        z.pair(0, 1, true);
        inclineBehind(z, ".", 0, 11);
        inclineBehind(z, ".", 1, 10);
        // a second year begins with what the first one left
        inclineBehind(z, "..", 0, 11);
        inclineBehind(z, "..", 1, 11);
    }

    private static void yearAsMany() {
        sentence("by more degrees, if as many");
        bothBehind(0, 90, 1, 91);
        bothBehind(89, 179, 90, 0);
        bothBehind(45, 135, 46, 136);
    }

    private static void yearAlike() {
        sentence("not, if they are alike");
        bothBehind(0, 0, 0, 0);
        bothBehind(179, 179, 179, 179);
        bothBehind(90, 90, 90, 90);
    }

    private static void yearOfTheHorn() {
        sentence("then the HORN reads a degree more, 9 at most, if the year is even, that begins");
        int[] horn = {0, 0, 1, 1, 2, 2, 3, 3, 4, 4, 5, 5, 6, 6, 7, 7, 8, 8, 9, 9, 9, 9, 9};
        for (int years = 0; years < horn.length; years++) {
            thenBehind(new HornCity(), dots(years), 0, horn[years]);
        }
        HornCity x = new HornCity();
        x.horn(8);
        thenBehind(x, ".", 0, 8);
        thenBehind(x, "..", 0, 9);
        thenBehind(x, "....", 0, 9);
        x.horn(9);
        thenBehind(x, "..", 0, 9);
        write(x, ".").done();
        x.horn(0);
        thenBehind(x, ".", 0, 1);
        thenBehind(x, "..", 0, 1);
        thenBehind(x, "...", 0, 2);
    }

    private static void firstSignThatCanNotStand() {
        sentence("THE FAULT: the place (from 0 on) of the first sign that can not stand there");
        for (String sign : new String[] {"!", "~", "+", "-", "&", "/", ":", "?", "0", "1", "9", "@", "J", "a"}) {
            faultOf(sign, 0);
            faultOf("." + sign, 1);
            faultOf("A/" + sign, 2);
            faultOf("A+1" + sign + "A", 3);
        }
        for (String sign : new String[] {"A", "I", ".", "1", "!", "~", "0", ",", "*", "'", "%", ";", "@", ">"}) {
            faultOf("A" + sign, 1);
            faultOf(".A" + sign + "+", 2);
        }
        faultOf(dots(59) + "!", 59);
        faultOf(dots(58) + "A.", 59);
        faultOf(dots(57) + "A+0", 59);
        faultOf(dots(60), NONE);
        faultOf(dots(57) + "A+9", NONE);
        faultOf(dots(58) + "I?", NONE);
        // the first, though there are others
        faultOf("A+0J", 2);
        faultOf("!!", 0);
        faultOf("A!+", 1);
        faultOf("J+", 0);
    }

    private static void moreMustCome() {
        sentence("the number of signs, if more must come");
        faultOf("A", 1);
        faultOf("I", 1);
        faultOf("A+", 2);
        faultOf("A-", 2);
        faultOf("A&", 2);
        faultOf("A:B", 3);
        faultOf("..A+1A&", 7);
        faultOf(dots(58) + "A", 59);
        faultOf(dots(59) + "A", 60);
        faultOf(dots(58) + "A+", 60);
        faultOf(dots(58) + "A&", 60);
        // signs of an earlier text are none
        HornCity x = write(new HornCity(), "A+1A&B");
        write(x, "A+");
        due("fault of A+ behind a longer text", x.fault(), 2);
        write(x, "A");
        due("fault of A behind a longer text", x.fault(), 1);
    }

    private static void emptyPad() {
        sentence("(an empty PAD has none)");
        HornCity x = new HornCity();
        due("fault", x.fault(), NONE);
        due("judge(0)", x.judge(0), NONE);
        due("judge(1)", x.judge(1), NONE);
        due("then(1)", x.then(1), 0);
        due("done", x.done(), 0);
        write(x, "A").wipe();
        due("fault, wiped", x.fault(), NONE);
        write(x, ".").done();
        due("fault, DONE", x.fault(), NONE);
        // what could not be is forgotten with its signs
        judged(x, "A/", 0, 1);
        x.wipe();
        due("judge(0), wiped", x.judge(0), NONE);
        due("judge(1), wiped", x.judge(1), NONE);
        due("then(1), wiped", x.then(1), 1);
        due("done, wiped", x.done(), 0);
    }

    private static HornCity whereAAndBSit() {
        HornCity x = three();
        x.pair(0, 1, true);
        return x;
    }

    private static void leastReason() {
        sentence("An ACT can not be for the least of these reasons");
        judged(whereAAndBSit(), "D&D", 0, 1);
        judged(whereAAndBSit(), "A&D", 0, 1);
        judged(whereAAndBSit(), "D&A", 0, 1);
        judged(whereAAndBSit(), "D/", 0, 1);
        judged(whereAAndBSit(), "A&A", 0, 2);
    }

    private static void noSuchOne() {
        sentence("1 there is no such ONE (one of both)");
        for (String act : new String[] {"D+1", "D-1", "D&A", "A&D", "D&E", "D/", "D:", "D?", "I+1", "A&I", "I&A"}) {
            judged(three(), act, 0, 1);
        }
        for (String act : new String[] {"A+1", "A-1", "A&B", "A:", "A?", "."}) {
            judged(three(), act, NONE, NONE);
            judged(new HornCity(), act, act.equals(".") ? NONE : 0, act.equals(".") ? NONE : 1);
        }
    }

    private static void bothAreOne() {
        sentence("2 both are one (&)");
        judged(three(), "A&A", 0, 2);
        judged(three(), "C&C", 0, 2);
        judged(whereAAndBSit(), "A/A&A", 1, 2);
    }

    private static void oneSitsBySomebody() {
        sentence("3 one of both sits by somebody (&)");
        judged(whereAAndBSit(), "A&C", 0, 3);
        judged(whereAAndBSit(), "C&A", 0, 3);
        judged(whereAAndBSit(), "A&B", 0, 3);
        judged(whereAAndBSit(), "B&A", 0, 3);
        judged(whereAAndBSit(), "C&B", 0, 3);
        judged(whereAAndBSit(), "B/C&A", NONE, NONE);
        judged(three(), "A&BB&C", 1, 3);
        HornCity x = inclined(1, 2, 3, 4);
        x.pair(0, 1, true);
        x.pair(2, 3, true);
        judged(x, "A&C", 0, 3);
    }

    private static void sitsByNone() {
        sentence("he sits by none (/)");
        judged(three(), "A/", 0, 3);
        judged(whereAAndBSit(), "C/", 0, 3);
        judged(whereAAndBSit(), "A/", NONE, NONE);
        judged(whereAAndBSit(), "B/", NONE, NONE);
        judged(whereAAndBSit(), "A/B/", 1, 3);
        judged(whereAAndBSit(), "A/A/", 1, 3);
    }

    /** Past its 512th call nothing is promised; but a year 999 is come to by more calls alone. */
    private static void year999() {
        sentence("4 it is year 999 (.)");
        HornCity x = three();
        for (int year = 0; year < 960; year += 60) {
            write(x, dots(60)).done();
        }
        write(x, dots(38)).done();
        due("told(3)", x.told(3), 998);
        judged(x, ".", NONE, NONE);
        judged(x, "..", 1, 4);
        judged(x, "A+1.A:.", 3, 4);
        due("done to year 999", write(x, ".").done(), 1);
        judged(x, ".", 0, 4);
        judged(x, "A+1A&B", NONE, NONE);
        judged(x, "A/.", 0, 3);
        due("done past it", write(x, ".").done(), NO);
        due("told(3), refused", x.told(3), 999);
        due("book of years past it", x.book(17, 1, 0), 10 + 2 * 999 % 180 + 55 + Math.floorMod(100 - 999, 180));
    }

    // ---- 2 JUDGED, BEHIND, TRIANGLES

    private static void firstActThatCanNotBe() {
        sentence("JUDGED: of YEARS the first ACT (from 0 on) that can not be, and why.");
        judged(three(), "A/", 0, 3);
        judged(three(), ".A/", 1, 3);
        judged(three(), "A/D:", 0, 3);
        judged(three(), "A+1A&AA/D:", 1, 2);
        judged(three(), "A+1A-1A&BA:A?A/.A/", 7, 3);
        judged(three(), dots(58) + "A/", 58, 3);
        judged(three(), dots(60), NONE, NONE);
    }

    private static void doneIsSo() {
        sentence("DONE: all is so then.");
        HornCity x = three();
        due("done", write(x, "A+9B-9A&C..").done(), 5);
        // A 19, then 22 and 25 (36, 32 between them); C 54, 53
        due("A", x.told(10), 25);
        due("B", x.told(20), 89);
        due("C", x.told(30), 53);
        due("A by", x.told(12), 2);
        due("C by", x.told(32), 0);
        due("A DRIFTS", x.told(11), 11);
        due("the HORN", x.told(2), 1);
        due("the year", x.told(3), 2);
        due("pairs", x.told(5), 1);
        due("ONES", x.told(1), 7);
        due("signs", x.told(0), 0);
        HornCity most = three();
        due("done, 60 years", write(most, dots(60)).done(), 60);
        due("A, 60 years", most.told(10), 130);
        due("the HORN, 60 years", most.told(2), 9);
        due("the year, 60 years", most.told(3), 60);
    }

    private static void ofAOne() {
        sentence("of a ONE what he is INCLINED by, by whom he sits (NONE)");
        HornCity x = three();
        x.one(8, 0, 0);
        mateBehind(x, "", 0, NONE);
        mateBehind(x, "A&IA/", 0, NONE);
        mateBehind(x, "A&IA/", 8, NONE);
        mateBehind(x, "I&A", 8, 0);
        mateBehind(x, "I&A", 0, 8);
        inclineBehind(x, "", 8, 0);
        inclineBehind(x, "I-1", 8, 179);
        x.pair(0, 8, true);
        mateBehind(x, "", 0, 8);
        mateBehind(x, "", 8, 0);
        mateBehind(x, "I/", 0, NONE);
        mateBehind(x, "I/B&I", 0, NONE);
        mateBehind(x, "I/B&I", 8, 1);
    }

    private static void chalkedLast() {
        sentence("with what he was chalked last in the text (NONE)");
        HornCity x = three();
        chalkBehind(x, "", 0, NONE);
        chalkBehind(x, "B:A+1.", 0, NONE);
        chalkBehind(x, "A:", 0, 10);
        chalkBehind(x, "A:A+1", 0, 10);
        chalkBehind(x, "A:A?", 0, 170);
        chalkBehind(x, "A?A:", 0, 10);
        chalkBehind(x, "A?A+1A:A+1B:", 0, 11);
        chalkBehind(x, "A?A+1A:A+1B:", 1, 100);
        due("done", write(x, "A:").done(), 1);
        chalkBehind(x, "", 0, NONE);
        chalkBehind(x, "A+1", 0, NONE);
        x.chalk(0, 10);
        chalkBehind(x, "", 0, NONE);
        x.one(8, 20, 0);
        chalkBehind(x, "I:A?", 8, 20);
        chalkBehind(x, "A:", 8, NONE);
    }

    private static void ofAll() {
        sentence("of all: what the HORN reads too much, the year, pairs that sit");
        HornCity x = new HornCity();
        int[] atFirst = {0, 0, 0, NONE, NONE};
        for (int what = 0; what <= 4; what++) {
            due("then(" + what + ") of nobody", x.then(what), atFirst[what]);
        }
        for (int one = 0; one <= 8; one++) {
            x.one(one, one, 0);
        }
        x.horn(9);
        String four = "A&BC&DE&FG&H";
        int[] then = {9, 0, 4, NONE, NONE};
        for (int what = 0; what <= 4; what++) {
            thenBehind(x, four, what, then[what]);
        }
        thenBehind(x, four + "H/", 2, 3);
        thenBehind(x, four + dots(20), 1, 20);
        thenBehind(x, four + dots(20), 0, 9);
    }

    private static void chalkedOtherwise() {
        sentence("the first ACT by which one was chalked otherwise than he was INCLINED, who (NONE)");
        HornCity x = three();
        String[] right = {"", "A:", "A:B:C:", ".A:", "A+1B-1A&B."};
        for (String text : right) {
            thenBehind(x, text, 3, NONE);
            thenBehind(x, text, 4, NONE);
        }
        String[] wrong = {"A?", "A:A?", "A:B:C?A?", "..A:", "A:A+1A:A?", dots(58) + "I?"};
        int[] acts = {0, 1, 2, 2, 3, 58}, who = {0, 0, 2, 0, 0, 8};
        x.one(8, 1, 0);
        for (int i = 0; i < wrong.length; i++) {
            thenBehind(x, wrong[i], 3, acts[i]);
            thenBehind(x, wrong[i], 4, who[i]);
        }
        // right from either end, and from the wrong end with the HORN's fault
        for (int incline : new int[] {0, 90}) {
            thenBehind(inclined(incline), "A?", 3, NONE);
            thenBehind(inclined(incline), "A?", 4, NONE);
        }
        HornCity y = inclined(178, 88, 87);
        y.horn(4);
        thenBehind(y, "A?B?C?A:", 3, 2);
        thenBehind(y, "A?B?C?A:", 4, 2);
        thenBehind(y, "A:", 3, 0);
        // what he is INCLINED by when he is chalked, not behind the text
        thenBehind(inclined(10), "A:A+1", 3, NONE);
        thenBehind(inclined(10), "A?A+9A+9A+9A+9A+9A+9A+9A+9A+8", 3, 0);
    }

    private static void notBeingDone() {
        sentence("BEHIND, likewise, not being DONE");
        String text = ".A+9A:A&C.";
        for (int what = 0; what <= 2; what++) {
            int[] due = {24, 2, 21};
            HornCity x = three();
            due("behind(0, " + what + ")", write(x, text).behind(0, what), due[what]);
            due("behind(0, " + what + ") again", x.behind(0, what), due[what]);
            due("A", x.told(10), 10);
            due("A by", x.told(12), NONE);
            due("the year", x.told(3), 0);
            due("signs", x.told(0), text.length());
        }
        HornCity x = three();
        due("then(1)", write(x, text).then(1), 2);
        due("then(1) again", x.then(1), 2);
        due("then(0)", x.then(0), 1);
        due("the year", x.told(3), 0);
        due("the HORN", x.told(2), 0);
        due("done", x.done(), 5);
        due("the year, DONE", x.told(3), 2);
        due("A, DONE", x.told(10), 24);
    }

    private static void triangles(int count, int first, int... inclines) {
        HornCity x = inclined(inclines);
        due("triangles(0)", x.triangles(0), count);
        due("triangles(1)", x.triangles(1), first);
    }

    private static void trianglesBy20() {
        sentence("TRIANGLES: sets of three ONES of whom each two are APART by 20 at least");
        triangles(1, 7, 0, 20, 40);
        triangles(0, NONE, 0, 19, 40);
        triangles(0, NONE, 0, 20, 39);
        triangles(1, 7, 0, 20, 160);
        triangles(0, NONE, 0, 20, 161);
        triangles(0, NONE, 1, 20, 160);
        triangles(0, NONE, 0, 21, 161);
        triangles(0, NONE);
        triangles(0, NONE, 0);
        triangles(0, NONE, 0, 90);
        triangles(0, NONE, 50, 50, 50);
        // I is as near to B as may be, and too near
        HornCity x = inclined(0, 60);
        x.one(8, 80, 0);
        due("triangles(0), A, B and I", x.triangles(0), 1);
        x.one(8, 79, 0);
        due("triangles(0), I being too near to B", x.triangles(0), 0);
        x.one(8, 161, 0);
        due("triangles(0), I being too near to A", x.triangles(0), 0);
    }

    private static void firstTriangle() {
        sentence("how many; the first (bits, the least number; NONE).");
        triangles(84, 7, 0, 20, 40, 60, 80, 100, 120, 140, 160);
        triangles(2, 1 + 4 + 8, 0, 0, 60, 120);
        triangles(3, 1 + 2 + 8, 60, 0, 0, 120, 0);
        // A, B and D is less than A, C and D, and B, C and D
        triangles(2, 1 + 2 + 8, 0, 60, 61, 120);
        // A is too near to B and to C: B, C and D (14) is less than A, D and E (25)
        triangles(5, 2 + 4 + 8, 10, 0, 20, 60, 100);
    }

    // ---- 3 BRING, LEAN, BISECT, MEET

    private static void bring(int from, int to, int a, int b, int c, int count, int first) {
        HornCity x = alone(from, 7);
        String call = "bring(0, " + to + ", " + a + ", " + b + ", " + c + ", ";
        due(call + "0) from " + from, x.bring(0, to, a, b, c, 0), count);
        due(call + "1) from " + from, x.bring(0, to, a, b, c, 1), first);
    }

    private static void asThingsAreNow() {
        sentence("(As things are now.)");
        HornCity x = drifting(10, 1, 40, 0);
        write(x, "A+9B+9..");
        for (int times = 0; times <= 1; times++) {
            due("bring to 10", x.bring(0, 10, 1, 2, 3, 0), 0);
            due("lean(0)", x.lean(0), 10);
            due("lean(1)", x.lean(1), 30);
            due("bisect(1)", x.bisect(1), 1);
            due("meet", x.meet(0, 1), 30);
            // nor does asking what is behind change what is
            due("behind(0, 0)", x.behind(0, 0), 21);
        }
        due("done", x.done(), 4);
        due("bring to 21, then", x.bring(0, 21, 1, 2, 3, 0), 0);
        due("lean(0), then", x.lean(0), 21);
        due("lean(1), then", x.lean(1), 28);
        due("meet, then", x.meet(0, 1), 28);
    }

    private static void bringHowMany() {
        sentence("that bring a ONE from his INCLINE to a told one: how many");
        HornCity x = inclined(0, 179, 90);
        due("to 0", x.bring(0, 0, 5, 6, 7, 0), 0);
        due("to 179", x.bring(1, 179, 5, 6, 7, 0), 0);
        due("from 0 to 179", x.bring(0, 179, 5, 6, 7, 0), 2);
        due("from 179 to 0", x.bring(1, 0, 5, 6, 7, 0), 2);
        due("from 90 to 0", x.bring(2, 0, 90, 90, 90, 0), 1);
        due("to -1", x.bring(0, -1, 5, 6, 7, 0), OUTSIDE);
        due("to 180", x.bring(0, 180, 5, 6, 7, 0), OUTSIDE);
    }

    private static void bringByTold() {
        sentence("BRING: turns by told degrees, three of them (1 to 179 each), either way round, as often as one likes:"
                + " the fewest turns");
        bring(0, 1, 1, 1, 1, 1, 0);
        bring(0, 179, 179, 179, 179, 1, 0);
        bring(0, 1, 179, 179, 179, 1, 3);
        bring(0, 90, 1, 1, 1, 90, 0);
        bring(0, 89, 1, 1, 1, 89, 0);
        bring(0, 91, 1, 1, 1, 89, 3);
        bring(179, 1, 1, 1, 1, 2, 0);
        bring(1, 179, 1, 1, 1, 2, 3);
        bring(0, 60, 1, 10, 50, 2, 1);
        bring(0, 39, 1, 10, 50, 3, 2);
        HornCity x = alone(0, 0);
        due("bring by 0, first", x.bring(0, 0, 0, 1, 1, 0), OUTSIDE);
        due("bring by 0, second", x.bring(0, 0, 1, 0, 1, 0), OUTSIDE);
        due("bring by 0, third", x.bring(0, 0, 1, 1, 0, 0), OUTSIDE);
        due("bring by 180, first", x.bring(0, 0, 180, 1, 1, 0), OUTSIDE);
        due("bring by 180, second", x.bring(0, 0, 1, 180, 1, 0), OUTSIDE);
        due("bring by 180, third", x.bring(0, 0, 1, 1, 180, 0), OUTSIDE);
    }

    private static void bringFirstTurn() {
        sentence("the first turn: 0, 1, 2 by the first, second, third of them more, 3, 4, 5 less, the least by which it"
                + " is as few (NONE: 0)");
        bring(50, 50, 1, 2, 3, 0, NONE);
        bring(0, 0, 179, 1, 90, 0, NONE);
        bring(50, 53, 3, 20, 70, 1, 0);
        bring(50, 70, 3, 20, 70, 1, 1);
        bring(50, 120, 3, 20, 70, 1, 2);
        bring(50, 47, 3, 20, 70, 1, 3);
        bring(50, 30, 3, 20, 70, 1, 4);
        bring(50, 160, 3, 20, 70, 1, 5);
        // as few by several: the least
        bring(0, 7, 7, 7, 7, 1, 0);
        bring(0, 7, 1, 7, 7, 1, 1);
        bring(0, 90, 90, 90, 90, 1, 0);
        bring(0, 90, 1, 90, 90, 1, 1);
        bring(0, 90, 1, 1, 90, 1, 2);
        bring(10, 3, 7, 7, 7, 1, 3);
        bring(10, 3, 1, 7, 7, 1, 4);
        bring(10, 3, 7, 173, 173, 1, 1);
        bring(0, 10, 3, 7, 90, 2, 0);
        bring(0, 4, 3, 7, 90, 2, 1);
        bring(0, 176, 3, 7, 90, 2, 0);
    }

    private static void bringNone() {
        sentence("(NONE: 0); NONE.");
        bring(10, 11, 2, 4, 6, NONE, NONE);
        bring(0, 90, 60, 120, 60, NONE, NONE);
        bring(0, 1, 90, 90, 90, NONE, NONE);
        bring(0, 10, 90, 60, 45, NONE, NONE);
        bring(0, 15, 90, 60, 45, 2, 1);
        bring(10, 12, 2, 4, 6, 1, 0);
    }

    private static void lean(int proposal, int sum, int... inclines) {
        HornCity x = inclined(inclines);
        due("lean(0)", x.lean(0), proposal);
        due("lean(1)", x.lean(1), sum);
    }

    private static void leanLeast() {
        sentence("LEAN: a proposal of p degrees (0 to 179): by which all ONES are APART from it by least in all,"
                + " the least: p; how much.");
        lean(0, 0);
        lean(0, 0, 0);
        lean(1, 0, 1);
        lean(2, 0, 2);
        lean(179, 0, 179);
        lean(10, 10, 20, 10);
        lean(0, 2, 179, 1);
        lean(0, 1, 179, 0);
        lean(178, 1, 178, 179);
        lean(0, 90, 0, 90);
        lean(0, 90, 45, 135);
        lean(170, 10, 170, 170, 0);
        lean(0, 25, 170, 170, 0, 5);
        lean(55, 90, 10, 100, 55);
        lean(0, 90, 0, 0, 0, 0, 0, 0, 0, 0, 90);
        lean(40, 160, 0, 0, 0, 0, 40, 40, 40, 40, 40);
    }

    private static void bisect(int sum, int half, int... inclines) {
        HornCity x = inclined(inclines);
        due("bisect(0)", x.bisect(0), sum);
        due("bisect(1)", x.bisect(1), half);
    }

    private static void bisectHalves() {
        sentence("BISECT: ONES in two halves that differ by one at the most: so that APART, added over all pairs in one"
                + " half, in both, is least: how much");
        bisect(0, 0);
        bisect(0, 1, 90);
        bisect(0, 1, 0, 90);
        bisect(0, 1, 7, 7);
        bisect(10, 1, 0, 50, 60);
        bisect(10, 3, 0, 170, 90);
        // A, B and C by 0 and D by 90: three to one would be 0
        bisect(90, 1 + 2, 0, 0, 0, 90);
        // four to one would be 0
        bisect(90, 1 + 2 + 4, 0, 0, 0, 0, 90);
        // both halves are added: 40 and 30
        bisect(70, 1 + 2, 0, 40, 100, 130);
    }

    private static void bisectHalfOfTheLeast() {
        sentence("the half in which the least ONE is, as bits, least of as little.");
        bisect(0, 1 + 4, 0, 90, 0, 90);
        bisect(0, 1 + 2, 5, 5, 5, 5);
        bisect(0, 1, 5, 5, 5);
        bisect(0, 1 + 2 + 4 + 8, 5, 5, 5, 5, 5, 5, 5, 5, 5);
        bisect(0, 1 + 256 + 128 + 64, 0, 90, 90, 90, 90, 90, 0, 0, 0);
        HornCity x = new HornCity();
        x.one(8, 0, 0);
        due("bisect(1), I alone", x.bisect(1), 256);
        x.one(5, 90, 0);
        due("bisect(1), F and I", x.bisect(1), 32);
        x.one(3, 0, 0);
        due("bisect(1), D, F and I", x.bisect(1), 8 + 256);
        due("bisect(0), D, F and I", x.bisect(0), 0);
    }

    private static HornCity drifting(int a, int driftA, int b, int driftB) {
        HornCity x = alone(a, driftA);
        x.one(1, b, driftB);
        return x;
    }

    private static void meet(int a, int driftA, int b, int driftB, int want) {
        HornCity x = drifting(a, driftA, b, driftB);
        String call = "meet of " + a + " and " + driftA + ", " + b + " and " + driftB;
        due(call, x.meet(0, 1), want);
        due(call + ", back", x.meet(1, 0), want);
    }

    private static void meetAlone() {
        sentence("MEET: two ONES, each DRIFTING alone (nobody sits by anybody)");
        HornCity x = drifting(0, 1, 90, 0);
        due("meet, by none", x.meet(0, 1), 90);
        x.pair(0, 1, true);
        due("meet, by each other", x.meet(0, 1), 90);
        x.pair(0, 1, false);
        x.one(2, 90, 0);
        x.pair(0, 2, true);
        due("meet, A by C", x.meet(0, 1), 90);
        due("meet, A and C who sit", x.meet(0, 2), 90);
        due("A still sits", x.told(12), 2);
    }

    private static void meetYears() {
        sentence("behind how many years (0 to 359) they are INCLINED alike first; NONE.");
        meet(7, 3, 7, -3, 0);
        meet(7, 3, 7, 3, 0);
        meet(0, 1, 1, 0, 1);
        meet(1, 1, 0, 0, 179);
        meet(0, 0, 1, -1, 1);
        meet(0, 9, 18, -9, 1);
        meet(18, 9, 0, -9, 9);
        meet(0, 9, 162, -9, 9);
        meet(0, 9, 17, -9, NONE);
        meet(0, 1, 1, 1, NONE);
        meet(0, 0, 179, 0, NONE);
        meet(0, 2, 1, 0, NONE);
        meet(0, 7, 1, 0, 103);
        due("meet with himself", alone(3, 3).meet(0, 0), 0);
    }

    // ---- 4 CHALKS, degrees, weathercocks, books

    private static void somebody() {
        sentence("Somebody was INCLINED by b (0 to 179) in year 0, and DRIFTED by d (-9 to 9); the HORN reads well.");
        HornCity x = new HornCity();
        due("was, all", x.was(0, -1), 180 * 19);
        due("was, the first: 0 and -9", x.was(0, 0), 0);
        due("was, the last: 179 and 9", x.was(0, 180 * 19 - 1), 20 * 179 + 18);
        x.horn(9);
        x.chalk(0, 40);
        due("was, the HORN reading 9 too much", x.was(0, 0), 20 * 40);
        x.forget();
        x.chalk(0, 179);
        x.chalk(1, 8);
        due("was, 179 and 9", x.was(0, 0), 20 * 179 + 18);
        x.forget();
        x.chalk(0, 0);
        x.chalk(1, 171);
        due("was, 0 and -9", x.was(0, 0), 0);
        x.forget();
        x.chalk(0, 0);
        x.chalk(1, 10);
        due("was, 0 and 10", x.was(0, -1), 0);
        x.forget();
        x.chalk(0, 0);
        x.chalk(1, 170);
        due("was, 0 and -10", x.was(0, -1), 0);
    }

    private static void chalks8() {
        sentence("CHALKS, 8 at most");
        HornCity x = new HornCity();
        for (int count = 1; count <= 8; count++) {
            due("chalk " + count, x.chalk(count, 30), count);
        }
        due("chalk 9", x.chalk(9, 30), FULL);
        due("told(4)", x.told(4), 8);
        due("forget", x.forget(), 8);
        due("chalk, the first again", x.chalk(0, 0), 1);
        // each of the eight is asked
        for (int other = 0; other < 8; other++) {
            HornCity y = new HornCity();
            for (int i = 0; i < 8; i++) {
                y.chalk(i, i == other ? 31 : 30);
            }
            due("was, chalk " + other + " being otherwise", y.was(0, -1), 0);
        }
    }

    private static void chalksInYears() {
        sentence("in a year (0 to 60) he was chalked with c (0 to 179)");
        HornCity x = new HornCity();
        due("year -1", x.chalk(-1, 0), OUTSIDE);
        due("year 61", x.chalk(61, 0), OUTSIDE);
        due("c -1", x.chalk(0, -1), OUTSIDE);
        due("c 180", x.chalk(0, 180), OUTSIDE);
        due("year 0, c 0", x.chalk(0, 0), 1);
        due("year 60, c 0", x.chalk(60, 0), 2);
        // 60 times what DRIFTS is left over by 180 as 0
        int[] codes = {0, 3, 6, 9, 12, 15, 18};
        due("was, years 0 and 60", x.was(0, -1), codes.length);
        for (int i = 0; i < codes.length; i++) {
            due("was, years 0 and 60, " + i, x.was(0, i), codes[i]);
        }
        due("year 60, c 179", x.chalk(60, 179), 3);
        x.forget();
        x.chalk(60, 179);
        due("was, year 60 and c 179, the first: 179 less 540, and 9", x.was(0, 18), 20 * 179 + 18);
    }

    private static void wasCodes() {
        sentence("WAS: 20 times b, and d and 9");
        int[][] who = {{0, -9}, {0, 9}, {1, 0}, {90, -1}, {179, -9}, {179, 9}};
        for (int[] one : who) {
            HornCity x = new HornCity();
            x.chalk(0, one[0]);
            x.chalk(1, Math.floorMod(one[0] + one[1], 180));
            due("was of " + one[0] + " and " + one[1], x.was(0, 0), 20 * one[0] + one[1] + 9);
            due("was, how many", x.was(0, -1), 1);
        }
    }

    /** By 10 and 1 in year 0 to 7, but so many of the eight from the wrong end. */
    private static HornCity wrongEnds(int count) {
        HornCity x = new HornCity();
        for (int year = 0; year < 8; year++) {
            x.chalk(year, year < count ? 170 - year : 10 + year);
        }
        return x;
    }

    private static void wasButW() {
        sentence("by which all CHALKS but w at the most (0 to 2) are so");
        for (int wrong = 0; wrong <= 3; wrong++) {
            for (int w = 0; w <= 2; w++) {
                HornCity x = wrongEnds(wrong);
                due("was(" + w + ", -1), " + wrong + " from the wrong end", x.was(w, -1), wrong <= w ? 1 : 0);
                due("was(" + w + ", 0), " + wrong + " from the wrong end", x.was(w, 0), wrong <= w ? 210 : NONE);
            }
        }
        due("was(-1, -1)", wrongEnds(0).was(-1, -1), OUTSIDE);
        due("was(3, -1)", wrongEnds(0).was(3, -1), OUTSIDE);
        // but w, from whichever end, not any w: 10, 11, 12 and one who is neither 13 nor 167
        HornCity x = new HornCity();
        x.chalk(0, 10);
        x.chalk(1, 11);
        x.chalk(2, 12);
        x.chalk(3, 14);
        due("was(2, -1), one from no end", x.was(2, -1), 0);
    }

    private static void wasOtherEnd() {
        sentence("each other one being from the wrong end (180 less it, left over by 180, being so)");
        for (int right : new int[] {0, 90}) {
            HornCity x = new HornCity();
            x.chalk(0, right);
            for (int w = 0; w <= 2; w++) {
                due("was(" + w + ", -1) of " + right + ", which is so from either end", x.was(w, -1), 19);
            }
            x.chalk(1, right);
            x.chalk(2, right);
            x.chalk(3, right);
            due("was(0, -1) of " + right + " for good", x.was(0, -1), 1);
            due("was(2, -1) of " + right + " for good", x.was(2, -1), 1);
        }
        int[][] ends = {{1, 179}, {179, 1}, {89, 91}, {91, 89}, {45, 135}};
        for (int[] end : ends) {
            HornCity x = new HornCity();
            x.chalk(0, end[0]);
            due("was(0, -1) of " + end[0], x.was(0, -1), 19);
            due("was(1, -1) of " + end[0], x.was(1, -1), 38);
            due("was(1, 0) of " + end[0], x.was(1, 0), 20 * Math.min(end[0], end[1]));
            due("was(1, 19) of " + end[0], x.was(1, 19), 20 * Math.max(end[0], end[1]));
        }
    }

    private static void wasRising() {
        sentence("how many; the i-th (rising).");
        HornCity x = new HornCity();
        x.chalk(0, 170);
        x.chalk(60, 170);
        int[] codes = {200, 203, 206, 209, 212, 215, 218, 3400, 3403, 3406, 3409, 3412, 3415, 3418};
        due("was(2, -1)", x.was(2, -1), 14);
        for (int i = 0; i < codes.length; i++) {
            due("was(2, " + i + ")", x.was(2, i), codes[i]);
        }
        due("was(2, 14)", x.was(2, 14), NONE);
        due("was(2, -2)", x.was(2, -2), NONE);
        due("was(0, 6)", x.was(0, 6), 3418);
        due("was(0, 7)", x.was(0, 7), NONE);
    }

    private static void ask(HornCity x, int year, int many) {
        due("ask(0)", x.ask(0), year);
        due("ask(1)", x.ask(1), many);
    }

    private static void askFewest() {
        sentence("ASK: the year to ask about next, w being 0, so that, whatever is chalked, fewest of these are left at"
                + " the most");
        // nobody is ruled out: in each year each of 180 is chalked by 19
        ask(new HornCity(), 0, 19);
        HornCity x = new HornCity();
        x.chalk(0, 10);
        ask(x, 1, 1);
        x.forget();
        x.chalk(60, 10);
        ask(x, 1, 1);
        // 18 times 10 is 180: in year 0 two of 19 are alike, in year 1 none
        x.forget();
        x.chalk(10, 10);
        ask(x, 1, 1);
        // w being 0: 170 from the wrong end is not asked
        x.forget();
        x.chalk(0, 10);
        x.chalk(1, 169);
        ask(x, NONE, NONE);
        // by 91, the wrong end of 89, some would be alike in year 1
        x.forget();
        x.chalk(0, 89);
        ask(x, 1, 1);
        for (int end : new int[] {0, 179}) {
            x.forget();
            x.chalk(0, end);
            ask(x, 1, 1);
        }
    }

    private static void askLeast() {
        sentence("the least; how many.");
        HornCity x = new HornCity();
        x.chalk(1, 10);
        ask(x, 0, 1);
        x.forget();
        x.chalk(9, 10);
        ask(x, 0, 1);
        x.chalk(0, 10);
        ask(x, 0, 1);
        x.forget();
        x.chalk(0, 0);
        x.chalk(60, 0);
        ask(x, 1, 1);
    }

    private static void take(int n, int first) {
        due("take(" + n + ", 0)", new HornCity().take(n, 0), first == NONE ? 0 : 1);
        due("take(" + n + ", 1)", new HornCity().take(n, 1), first);
    }

    private static void takeTwoByTurns() {
        sentence("of n degrees (0 to 179) two by turns take 1, or half of what is left (cut, 1 at least), or a third"
                + " (likewise); who can not has lost");
        take(0, NONE);
        take(1, 1);
        take(2, NONE);
        take(3, 1);
        take(5, NONE);
        // 7 leaves 5 by its third, 2 (cut); 11 leaves 8 by 3; 15 leaves 8 by its half, 7 (cut)
        take(7, 2);
        take(8, NONE);
        take(11, 3);
        take(15, 7);
        take(178, 1);
        take(179, NONE);
        HornCity x = new HornCity();
        due("take(-1, 0)", x.take(-1, 0), OUTSIDE);
        due("take(180, 0)", x.take(180, 0), OUTSIDE);
    }

    private static void takeWhether() {
        sentence("whether who begins can win (1, 0)");
        int[] lost = {0, 2, 5, 8, 13, 17, 20, 22, 24, 27, 31, 37, 171, 173, 177, 179};
        for (int n : lost) {
            due("take(" + n + ", 0)", new HornCity().take(n, 0), 0);
        }
        int[] won = {1, 3, 4, 6, 7, 9, 16, 18, 23, 36, 170, 172, 178};
        for (int n : won) {
            due("take(" + n + ", 0)", new HornCity().take(n, 0), 1);
        }
    }

    private static void takeTheLeast() {
        sentence("how many he takes first for it, the least (NONE)");
        // by 1, or by half: 8 and 5 are lost
        take(9, 1);
        // by all three: 24, 17 and 13 are lost
        take(25, 1);
        // by 1 or a third
        take(32, 1);
        // by a third or by half
        take(33, 11);
        take(40, 13);
        take(175, 58);
        // by half alone
        take(10, 5);
        // by a third alone
        take(12, 4);
        take(4, 2);
    }

    private static void cockOnARing() {
        sentence("COCK: a weathercock on a ring of m points (2 to 12) turns by one each hour, forwards with a tenths"
                + " (0 to 10), back with b tenths (10 with a at most), else not");
        fraction(2, 0, 3, 4, 1, 1, 7, 10);
        fraction(2, 1, 3, 4, 1, 0, 7, 10);
        fraction(3, 2, 10, 0, 1, 0, 1, 1);
        fraction(3, 0, 0, 10, 1, 2, 1, 1);
        fraction(12, 11, 10, 0, 1, 0, 1, 1);
        fraction(12, 0, 0, 10, 1, 11, 1, 1);
        fraction(12, 0, 10, 0, 16, 4, 1, 1);
        fraction(12, 0, 0, 10, 16, 8, 1, 1);
        fraction(12, 5, 0, 0, 16, 5, 1, 1);
        fraction(5, 1, 4, 6, 1, 1, 0, 1);
        fraction(5, 1, 0, 0, 1, 1, 1, 1);
        fraction(5, 1, 3, 3, 1, 1, 2, 5);
        // 4 or 16 times forwards of 16
        fraction(12, 0, 1, 0, 16, 4, 1820 * 282_429_536_481L + 1, 10_000_000_000_000_000L);
        sentence("that it is at point q, having been at p, behind n hours (0 to 16)");
        fraction(5, 3, 3, 4, 0, 3, 1, 1);
        fraction(5, 3, 3, 4, 0, 2, 0, 1);
        fraction(3, 0, 5, 5, 2, 0, 1, 2);
        fraction(3, 0, 5, 5, 2, 1, 1, 4);
        fraction(12, 0, 10, 0, 16, 5, 0, 1);
        // not at all, or 12 times, forwards of 16
        fraction(12, 0, 1, 0, 16, 0, 1_853_020_188_851_841L + 1820 * 6561, 10_000_000_000_000_000L);
    }

    private static void book(HornCity x, int seed, int inclines, int pairs) {
        due("book(" + seed + ", 1, 0)", x.book(seed, 1, 0), inclines);
        due("book(" + seed + ", 1, 1)", x.book(seed, 1, 1), pairs);
    }

    private static void bookDraws() {
        sentence("A YEAR-BOOK by a seed (0 to 9999) of m ACTS (1 to 99), from all as it is: x, the seed at first,"
                + " becomes for each ACT (75 x and 74) left over by 65537");
        // seed 0: 74 is C, draw 0, z 1: he turns by 2
        book(three(), 0, 165 + 2, 0);
        // seed 9999: 749999 left over is 29092: E, draw 0, z 404: he turns by 9
        HornCity x = inclined(0, 0, 0, 0, 50);
        book(x, 9999, 59, 0);
        due("book(-1, 1, 0)", x.book(-1, 1, 0), OUTSIDE);
        due("book(10000, 1, 0)", x.book(10000, 1, 0), OUTSIDE);
        due("book(0, 0, 0)", x.book(0, 0, 0), OUTSIDE);
        due("book(0, 100, 0)", x.book(0, 100, 0), OUTSIDE);
        bookOfManyActs();
    }

    /** Of nobody but C, not drifting: of 99 ACTS those that turn him, one by one. */
    private static void bookOfManyActs() {
        HornCity x = new HornCity();
        x.one(2, 0, 0);
        int drawn = 0, incline = 0;
        for (int m = 1; m <= 99; m++) {
            drawn = (75 * drawn + 74) % 65537;
            int by = 1 + drawn / 72 % 9, draw = drawn / 9 % 8;
            if (drawn % 9 == 2 && draw <= 2) {
                incline = Math.floorMod(incline + (draw == 2 ? -by : by), 180);
            }
            due("book(0, " + m + ", 0)", x.book(0, m, 0), incline);
        }
    }

    private static void bookOneAndDrawAndZ() {
        sentence("of ONE x left over by 9, by x by 9 (cut) left over by 8, z being x by 72 (cut)");
        // seed 1: 149 is F (5), 16 left over by 8 is 0, z is 2: F turns by 3
        HornCity x = new HornCity();
        x.one(5, 50, 0);
        book(x, 1, 53, 0);
        // of I (8), where x by 9 is cut by nearly 1: draws 0, 1, 2, 3, 4 and 5 to 7
        HornCity y = new HornCity();
        y.one(8, 50, -1);
        y.one(3, 100, 0);
        book(y, 2, 150 + 4, 0);
        book(y, 5, 150 + 7, 0);
        book(y, 8, 150 - 1, 0);
        book(y, 11, 150, 1);
        y.pair(3, 8, true);
        book(y, 14, 150, 0);
        y.pair(3, 8, false);
        book(y, 17, 150 - 1, 0);
        book(y, 20, 150 - 1, 0);
        book(y, 23, 150 - 1, 0);
    }

    private static void bookAnswers() {
        sentence("INCLINES of all added; pairs that sit; TRIANGLES.");
        HornCity nobody = new HornCity();
        HornCity x = inclined(179, 159, 139, 119, 99, 79, 59, 39, 19);
        x.pair(0, 1, true);
        x.pair(2, 3, true);
        x.pair(4, 5, true);
        x.pair(6, 7, true);
        // I turns by 4 (to 23): too near to H, who is APART from him by 16
        int[] asItWas = {0, 0, 0}, then = {179 + 159 + 139 + 119 + 99 + 79 + 59 + 39 + 23, 4, 84 - 7};
        for (int what = 0; what <= 2; what++) {
            due("book(2, 1, " + what + ") of nobody", nobody.book(2, 1, what), asItWas[what]);
            due("book(2, 1, " + what + ")", x.book(2, 1, what), then[what]);
        }
    }

    private static void bookEachActOfADraw() {
        sentence("0, 1 he turns by 1 more than what z leaves over by 9, 2 back by as many, 3 he sits by ONE z left over"
                + " by 9, 4 by none, 5 to 7 a year");
        HornCity x = three();
        // of A: draw 0 by 1, by 9; draw 1 by 1, by 9; draw 2 by 1, by 9
        int[] seeds = {1037, 941, 968, 1088, 899, 1019};
        int[] turns = {1, 9, 1, 9, -1, -9};
        for (int i = 0; i < seeds.length; i++) {
            book(x, seeds[i], 165 + turns[i], 0);
        }
        // draw 3: A by B, by C
        book(x, 926, 165, 1);
        book(x, 1022, 165, 1);
        // draws 5, 6 and 7 of I, who is not there: a year is nobody's
        for (int seed : new int[] {17, 20, 23}) {
            book(x, seed, 165 + 1, 0);
        }
        x.pair(0, 1, true);
        // draw 4 of A and of B
        book(x, 881, 165, 0);
        book(x, 1751, 165, 0);
        // INCLINES of all added, not left over by 180
        book(inclined(179, 179, 179), 17, 537, 0);
        HornCity y = alone(179, 0);
        book(y, 1037, 0, 0);
        book(y, 941, 8, 0);
        due("triangles by a year", triangleInAYear().book(17, 1, 2), 1);
        due("none by a turn", triangleInAYear().book(2, 1, 2), 0);
    }

    private static HornCity triangleInAYear() {
        HornCity x = inclined(0, 60);
        x.one(2, 79, 1);
        return x;
    }

    private static void bookIfThatCanBe() {
        sentence("each if that can be");
        HornCity x = alone(10, 2);
        // A by B, who is not there; A by A; A by none; I turns, who is not there
        book(x, 926, 10, 0);
        book(x, 1046, 10, 0);
        book(x, 881, 10, 0);
        book(x, 2, 10, 0);
        HornCity y = inclined(1, 2, 3);
        y.pair(0, 2, true);
        // A by B, while A sits by C; B by A, while A sits by C; B by none
        book(y, 926, 6, 1);
        book(y, 1868, 6, 1);
        book(y, 1751, 6, 1);
    }

    private static void bookIsNotDone() {
        sentence("Nothing is DONE in fact.");
        // a year: A 11, B 99, C 55, I 171
        changesNothing("book(17, 1, 0)", "A+1.", x -> x.book(17, 1, 0), 336);
        changesNothing("book(17, 1, 1)", "A+1.", x -> x.book(17, 1, 1), 1);
        changesNothing("book(17, 1, 2)", "A+1.", x -> x.book(17, 1, 2), 4);
        changesNothing("book(77, 99, 0), less itself", "A+1.", x -> x.book(77, 99, 0) - x.book(77, 99, 0), 0);
    }
}
