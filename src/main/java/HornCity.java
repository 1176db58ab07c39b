/**
 * The measured city: what a man thinks of a thing is how he is inclined to it.
 * The public methods look at their numbers and answer refusals; what they ask for is
 * worked out by the classes inside, whose rows are made once, with the object, so that
 * no call makes anything.
 */
public final class HornCity {
    public static final int NONE = -6, UNKNOWN = -1, OUTSIDE = -2, STATE = -3, FULL = -4, NO = -5;
    public static final long LOST = -1000000000000000000L;

    private static final int ONES = 9;
    private static final int ROUND = 180;
    private static final int RIGHT = 90;
    private static final int MOST_DRIFT = 9;
    private static final int MOST_HORN = 9;
    private static final int LAST_YEAR = 999;
    private static final int APART_IN_TRIANGLE = 20;

    private static final int PAD_SIGNS = 60;
    private static final int FIRST_SIGN = 33;
    private static final int LAST_SIGN = 126;

    private static final int MOST_CHALKS = 8;
    private static final int LAST_CHALK_YEAR = 60;
    private static final int MOST_WRONG_ENDS = 2;
    private static final int CODE_STEP = 20;

    private static final int YEARS_TO_MEET = 360;
    private static final int WAYS_TO_TURN = 6;
    private static final int LEAST_RING = 2;
    private static final int MOST_RING = 12;
    private static final int TENTHS = 10;
    private static final int MOST_HOURS = 16;
    private static final int MOST_SEED = 9999;
    private static final int MOST_BOOK_ACTS = 99;
    private static final int IMAGES = 2;

    private static final int CAN_BE = 0;
    private static final int NO_SUCH_ONE = 1;
    private static final int BOTH_ARE_ONE = 2;
    private static final int WRONG_SEAT = 3;
    private static final int TOO_LATE = 4;

    private static final char TURN = '+';
    private static final char BACK = '-';
    private static final char SIT = '&';
    private static final char LEAVE = '/';
    private static final char CHALK = ':';
    private static final char CHALK_WRONG = '?';
    private static final char YEAR = '.';

    private final City now;
    private final City firstImage;
    private final City secondImage;
    private final boolean[] kept;
    private final Pad pad;
    private final Years years;
    private final Turns turns;
    private final Asking asking;
    private final Taking taking;
    private final Weathercock weathercock;

    public HornCity() {
        now = new City();
        firstImage = new City();
        secondImage = new City();
        kept = new boolean[IMAGES];
        pad = new Pad();
        years = new Years();
        turns = new Turns();
        asking = new Asking();
        taking = new Taking();
        weathercock = new Weathercock();
    }

    // ---- 1 people, the horn, years

    public int one(int one, int inclined, int drifts) {
        if (!isWithin(one, 0, ONES - 1)) {
            return UNKNOWN;
        }
        if (!isWithin(inclined, 0, ROUND - 1) || !isWithin(drifts, -MOST_DRIFT, MOST_DRIFT)) {
            return OUTSIDE;
        }
        now.settle(one, inclined, drifts);
        return now.heads();
    }

    public int pair(int a, int b, boolean is) {
        if (!now.isThere(a) || !now.isThere(b) || a == b) {
            return UNKNOWN;
        }
        if (is) {
            if (now.mateOf(a) != NONE || now.mateOf(b) != NONE) {
                return STATE;
            }
            now.seat(a, b);
        } else {
            if (now.mateOf(a) != b) {
                return STATE;
            }
            now.separate(a);
        }
        return now.pairsSitting();
    }

    public int horn(int v) {
        if (!isWithin(v, 0, MOST_HORN)) {
            return OUTSIDE;
        }
        int was = now.tooMuch;
        now.tooMuch = v;
        return was;
    }

    public int say(int sign) {
        if (!isWithin(sign, FIRST_SIGN, LAST_SIGN)) {
            return OUTSIDE;
        }
        return pad.write(sign) ? pad.length : FULL;
    }

    public int wipe() {
        int were = pad.length;
        pad.length = 0;
        return were;
    }

    public int fault() {
        return pad.faultPlace();
    }

    // ---- 2 years

    public int judge(int what) {
        if (!isWithin(what, 0, 1)) {
            return OUTSIDE;
        }
        if (pad.faultPlace() != NONE) {
            return NO;
        }
        years.tell(pad, now);
        if (years.why == CAN_BE) {
            return NONE;
        }
        return what == 0 ? years.acts : years.why;
    }

    public int done() {
        if (!yearsCanBe()) {
            return NO;
        }
        now.become(years.city);
        pad.length = 0;
        return years.acts;
    }

    public int behind(int one, int what) {
        if (!now.isThere(one)) {
            return UNKNOWN;
        }
        if (!isWithin(what, 0, 2)) {
            return OUTSIDE;
        }
        if (!yearsCanBe()) {
            return NO;
        }
        if (what == 0) {
            return years.city.inclineOf(one);
        }
        return what == 1 ? years.city.mateOf(one) : years.chalkOf(one);
    }

    public int then(int what) {
        if (!isWithin(what, 0, 4)) {
            return OUTSIDE;
        }
        if (!yearsCanBe()) {
            return NO;
        }
        switch (what) {
            case 0: return years.city.tooMuch;
            case 1: return years.city.year;
            case 2: return years.city.pairsSitting();
            case 3: return years.wrongAct;
            default: return years.wrongOne;
        }
    }

    public int apart(int a, int b) {
        if (!now.isThere(a) || !now.isThere(b)) {
            return UNKNOWN;
        }
        return now.between(a, b);
    }

    public int triangles(int what) {
        if (!isWithin(what, 0, 1)) {
            return OUTSIDE;
        }
        return what == 0 ? Crowd.triangleCount(now) : Crowd.firstTriangle(now);
    }

    // ---- 3 bringing, leaning, halves, meeting

    public int bring(int one, int to, int a, int b, int c, int what) {
        if (!now.isThere(one)) {
            return UNKNOWN;
        }
        if (!isWithin(to, 0, ROUND - 1) || !isWithin(a, 1, ROUND - 1) || !isWithin(b, 1, ROUND - 1)
                || !isWithin(c, 1, ROUND - 1) || !isWithin(what, 0, 1)) {
            return OUTSIDE;
        }
        turns.measureTo(to, a, b, c);
        int from = now.inclineOf(one);
        return what == 0 ? turns.fewestFrom(from) : turns.firstFrom(from);
    }

    public int lean(int what) {
        if (!isWithin(what, 0, 1)) {
            return OUTSIDE;
        }
        int proposal = Crowd.bestProposal(now);
        return what == 0 ? proposal : Crowd.apartFrom(now, proposal);
    }

    public int bisect(int what) {
        if (!isWithin(what, 0, 1)) {
            return OUTSIDE;
        }
        int half = Crowd.bestHalf(now);
        return what == 0 ? Crowd.apartInHalves(now, half) : half;
    }

    public int meet(int a, int b) {
        if (!now.isThere(a) || !now.isThere(b)) {
            return UNKNOWN;
        }
        return Crowd.yearsToMeet(now, a, b);
    }

    // ---- 4 chalks, degrees, weathercocks

    public int chalk(int year, int c) {
        if (!isWithin(year, 0, LAST_CHALK_YEAR) || !isWithin(c, 0, ROUND - 1)) {
            return OUTSIDE;
        }
        return now.chalks.put(year, c) ? now.chalks.count : FULL;
    }

    public int forget() {
        int were = now.chalks.count;
        now.chalks.count = 0;
        return were;
    }

    public int was(int w, int i) {
        if (!isWithin(w, 0, MOST_WRONG_ENDS)) {
            return OUTSIDE;
        }
        return i == -1 ? now.chalks.countFits(w) : now.chalks.fitAt(w, i);
    }

    public int ask(int what) {
        if (!isWithin(what, 0, 1)) {
            return OUTSIDE;
        }
        asking.weigh(now.chalks);
        return what == 0 ? asking.bestYear : asking.bestMost;
    }

    public int take(int n, int what) {
        if (!isWithin(n, 0, ROUND - 1) || !isWithin(what, 0, 1)) {
            return OUTSIDE;
        }
        int first = taking.firstOf(n);
        if (what == 0) {
            return first == NONE ? 0 : 1;
        }
        return first;
    }

    public long cock(int m, int p, int a, int b, int n, int q, int part) {
        if (!isWithin(m, LEAST_RING, MOST_RING) || !isWithin(p, 0, m - 1) || !isWithin(q, 0, m - 1)
                || !isWithin(a, 0, TENTHS) || !isWithin(b, 0, TENTHS - a)
                || !isWithin(n, 0, MOST_HOURS) || !isWithin(part, 0, 1)) {
            return LOST + OUTSIDE;
        }
        weathercock.start(m, p);
        for (int hour = 0; hour < n; hour++) {
            weathercock.turn(a, b);
        }
        return part == 0 ? weathercock.upperAt(q) : weathercock.lowerAt(q);
    }

    public int book(int seed, int m, int what) {
        if (!isWithin(seed, 0, MOST_SEED) || !isWithin(m, 1, MOST_BOOK_ACTS) || !isWithin(what, 0, 2)) {
            return OUTSIDE;
        }
        years.draw(now, seed, m);
        switch (what) {
            case 0: return years.city.inclinesAdded();
            case 1: return years.city.pairsSitting();
            default: return Crowd.triangleCount(years.city);
        }
    }

    public int image(int n) {
        if (!isWithin(n, 0, IMAGES - 1)) {
            return OUTSIDE;
        }
        imageOf(n).become(now);
        kept[n] = true;
        return 1;
    }

    public int restore(int n) {
        if (!isWithin(n, 0, IMAGES - 1)) {
            return OUTSIDE;
        }
        if (!kept[n]) {
            return STATE;
        }
        now.become(imageOf(n));
        return 1;
    }

    public int told(int what) {
        switch (what) {
            case 0: return pad.length;
            case 1: return now.there;
            case 2: return now.tooMuch;
            case 3: return now.year;
            case 4: return now.chalks.count;
            case 5: return now.pairsSitting();
            default: return toldOfOne(what / 10 - 1, what % 10);
        }
    }

    private int toldOfOne(int one, int part) {
        if (!now.isThere(one)) {
            return OUTSIDE;
        }
        switch (part) {
            case 0: return now.inclineOf(one);
            case 1: return now.driftOf(one) + MOST_DRIFT;
            case 2: return now.mateOf(one);
            default: return OUTSIDE;
        }
    }

    private City imageOf(int n) {
        return n == 0 ? firstImage : secondImage;
    }

    private boolean yearsCanBe() {
        if (pad.faultPlace() != NONE) {
            return false;
        }
        years.tell(pad, now);
        return years.why == CAN_BE;
    }

    private static boolean isWithin(int number, int least, int most) {
        return number >= least && number <= most;
    }

    /** Counting degrees, all of which are left over by 180. */
    private static final class Protractor {
        static int leftOver(int degrees) {
            int rest = degrees % ROUND;
            return rest < 0 ? rest + ROUND : rest;
        }

        static int between(int incline, int other) {
            int oneWay = leftOver(incline - other);
            return Math.min(oneWay, ROUND - oneWay);
        }
    }

    /** All that an image keeps: the ones, the horn, the year and the chalks. */
    private static final class City {
        private final int[] inclines;
        private final int[] drifting;
        private final int[] mates;
        private final int[] ahead;
        final Chalks chalks;
        int there;
        int tooMuch;
        int year;

        City() {
            inclines = new int[ONES];
            drifting = new int[ONES];
            mates = new int[ONES];
            ahead = new int[ONES];
            chalks = new Chalks();
            for (int one = 0; one < ONES; one++) {
                mates[one] = NONE;
            }
        }

        void become(City other) {
            for (int one = 0; one < ONES; one++) {
                inclines[one] = other.inclines[one];
                drifting[one] = other.drifting[one];
                mates[one] = other.mates[one];
            }
            chalks.become(other.chalks);
            there = other.there;
            tooMuch = other.tooMuch;
            year = other.year;
        }

        boolean isThere(int one) {
            return one >= 0 && one < ONES && (there >> one & 1) != 0;
        }

        int inclineOf(int one) {
            return isThere(one) ? inclines[one] : 0;
        }

        int driftOf(int one) {
            return isThere(one) ? drifting[one] : 0;
        }

        int mateOf(int one) {
            return isThere(one) ? mates[one] : NONE;
        }

        int between(int one, int other) {
            return Protractor.between(inclineOf(one), inclineOf(other));
        }

        int heads() {
            return Integer.bitCount(there);
        }

        int pairsSitting() {
            int pairs = 0;
            for (int one = 0; one < ONES; one++) {
                // each pair is met twice, and counted at the lesser of its two
                if (mateOf(one) > one) {
                    pairs++;
                }
            }
            return pairs;
        }

        int inclinesAdded() {
            int sum = 0;
            for (int one = 0; one < ONES; one++) {
                sum += inclineOf(one);
            }
            return sum;
        }

        void settle(int one, int inclined, int drifts) {
            if (one < 0 || one >= ONES) {
                return;
            }
            separate(one);
            there |= 1 << one;
            inclines[one] = inclined;
            drifting[one] = drifts;
        }

        void seat(int one, int other) {
            if (isThere(one) && isThere(other)) {
                mates[one] = other;
                mates[other] = one;
            }
        }

        void separate(int one) {
            int mate = mateOf(one);
            if (isThere(one) && isThere(mate)) {
                mates[one] = NONE;
                mates[mate] = NONE;
            }
        }

        int whyNot(int kind, int one, int with) {
            if (kind == YEAR) {
                return year >= LAST_YEAR ? TOO_LATE : CAN_BE;
            }
            if (!isThere(one) || kind == SIT && !isThere(with)) {
                return NO_SUCH_ONE;
            }
            if (kind == SIT) {
                if (one == with) {
                    return BOTH_ARE_ONE;
                }
                return mateOf(one) != NONE || mateOf(with) != NONE ? WRONG_SEAT : CAN_BE;
            }
            return kind == LEAVE && mateOf(one) == NONE ? WRONG_SEAT : CAN_BE;
        }

        void act(int kind, int one, int with) {
            switch (kind) {
                case TURN: turnBy(one, with); break;
                case BACK: turnBy(one, -with); break;
                case SIT: seat(one, with); break;
                case LEAVE: separate(one); break;
                case YEAR: passYear(); break;
                // chalk changes nobody
                default: break;
            }
        }

        int chalkFor(int one) {
            return Protractor.leftOver(inclineOf(one) + tooMuch);
        }

        private void turnBy(int one, int degrees) {
            if (isThere(one)) {
                inclines[one] = Protractor.leftOver(inclines[one] + degrees);
            }
        }

        private void passYear() {
            // all go at once: nobody may see where another has gone this year
            for (int one = 0; one < ONES; one++) {
                ahead[one] = inclines[one];
            }
            for (int one = 0; one < ONES; one++) {
                if (isThere(one)) {
                    inclines[one] = Protractor.leftOver(ahead[one] + drifting[one] + drawOf(one));
                }
            }
            year++;
            if (year % 2 == 0 && tooMuch < MOST_HORN) {
                tooMuch++;
            }
        }

        private int drawOf(int one) {
            if (!isThere(one) || !isThere(mates[one])) {
                return 0;
            }
            int more = Protractor.leftOver(ahead[mates[one]] - ahead[one]);
            if (more == 0) {
                return 0;
            }
            return more <= RIGHT ? 1 : -1;
        }
    }

    /** The signs that were said, and where acts begin and end in them. */
    private static final class Pad {
        private final int[] signs;
        int length;

        Pad() {
            signs = new int[PAD_SIGNS];
        }

        boolean write(int sign) {
            if (length < 0 || length >= PAD_SIGNS) {
                return false;
            }
            signs[length] = sign;
            length++;
            return true;
        }

        int faultPlace() {
            int place = 0;
            for (int act = 0; act < PAD_SIGNS && place < length; act++) {
                int fault = faultOfAct(place);
                if (fault != NONE) {
                    return fault;
                }
                place += lengthOfAct(place);
            }
            return NONE;
        }

        int kindAt(int place) {
            return signAt(place) == YEAR ? YEAR : signAt(place + 1);
        }

        int oneAt(int place) {
            return signAt(place) - 'A';
        }

        int withAt(int place) {
            return signAt(place + 2) - (kindAt(place) == SIT ? 'A' : '0');
        }

        int lengthOfAct(int place) {
            switch (kindAt(place)) {
                case YEAR: return 1;
                case LEAVE:
                case CHALK:
                case CHALK_WRONG: return 2;
                default: return 3;
            }
        }

        private int signAt(int place) {
            return place >= 0 && place < length && place < PAD_SIGNS ? signs[place] : 0;
        }

        private int faultOfAct(int place) {
            int first = signAt(place);
            if (first == YEAR) {
                return NONE;
            }
            if (!isLetter(first)) {
                return place;
            }
            // past the last sign a 0 is read, which fits nowhere: so a text that stops short is told by its length
            if (!isKind(signAt(place + 1))) {
                return place + 1;
            }
            return lengthOfAct(place) == 2 ? NONE : faultOfEnd(place);
        }

        private int faultOfEnd(int place) {
            int end = signAt(place + 2);
            boolean fits = kindAt(place) == SIT ? isLetter(end) : end >= '1' && end <= '9';
            return fits ? NONE : place + 2;
        }

        private static boolean isLetter(int sign) {
            return sign >= 'A' && sign <= 'I';
        }

        private static boolean isKind(int sign) {
            return sign == TURN || sign == BACK || sign == SIT
                    || sign == LEAVE || sign == CHALK || sign == CHALK_WRONG;
        }
    }

    /** Years told or drawn, tried on a city of their own so that nothing is done in fact. */
    private static final class Years {
        final City city;
        private final int[] chalked;
        int acts;
        int why;
        int wrongAct;
        int wrongOne;

        Years() {
            city = new City();
            chalked = new int[ONES];
        }

        /** Expects a pad without a fault; goes as far as acts can be. */
        void tell(Pad pad, City from) {
            begin(from);
            int place = 0;
            for (int act = 0; act < PAD_SIGNS && place < pad.length; act++) {
                int kind = pad.kindAt(place);
                int one = pad.oneAt(place);
                int with = pad.withAt(place);
                why = city.whyNot(kind, one, with);
                if (why != CAN_BE) {
                    return;
                }
                if (kind == CHALK || kind == CHALK_WRONG) {
                    putChalk(one, kind == CHALK_WRONG);
                }
                city.act(kind, one, with);
                acts++;
                place += pad.lengthOfAct(place);
            }
        }

        void draw(City from, int seed, int count) {
            begin(from);
            int x = seed;
            for (int act = 0; act < count; act++) {
                x = (75 * x + 74) % 65537;
                int one = x % ONES;
                int kind = kindOfLot(x / ONES % 8);
                int z = x / 72;
                int with = kind == SIT ? z % ONES : 1 + z % 9;
                if (city.whyNot(kind, one, with) == CAN_BE) {
                    city.act(kind, one, with);
                }
            }
        }

        int chalkOf(int one) {
            return one >= 0 && one < ONES ? chalked[one] : NONE;
        }

        private void begin(City from) {
            city.become(from);
            acts = 0;
            why = CAN_BE;
            wrongAct = NONE;
            wrongOne = NONE;
            for (int one = 0; one < ONES; one++) {
                chalked[one] = NONE;
            }
        }

        private void putChalk(int one, boolean fromWrongEnd) {
            if (one < 0 || one >= ONES) {
                return;
            }
            int read = city.chalkFor(one);
            chalked[one] = fromWrongEnd ? Protractor.leftOver(ROUND - read) : read;
            if (chalked[one] != city.inclineOf(one) && wrongAct == NONE) {
                wrongAct = acts;
                wrongOne = one;
            }
        }

        private static int kindOfLot(int lot) {
            switch (lot) {
                case 0:
                case 1: return TURN;
                case 2: return BACK;
                case 3: return SIT;
                case 4: return LEAVE;
                default: return YEAR;
            }
        }
    }

    /** What is asked of the ones of a city together. */
    private static final class Crowd {
        static int triangleCount(City city) {
            int count = 0;
            for (int set = 0; set < 1 << ONES; set++) {
                if (isTriangle(city, set)) {
                    count++;
                }
            }
            return count;
        }

        static int firstTriangle(City city) {
            for (int set = 0; set < 1 << ONES; set++) {
                if (isTriangle(city, set)) {
                    return set;
                }
            }
            return NONE;
        }

        static int bestProposal(City city) {
            int best = 0;
            int least = apartFrom(city, 0);
            for (int proposal = 1; proposal < ROUND; proposal++) {
                int sum = apartFrom(city, proposal);
                if (sum < least) {
                    least = sum;
                    best = proposal;
                }
            }
            return best;
        }

        static int apartFrom(City city, int proposal) {
            int sum = 0;
            for (int one = 0; one < ONES; one++) {
                if (city.isThere(one)) {
                    sum += Protractor.between(city.inclineOf(one), proposal);
                }
            }
            return sum;
        }

        /** The half with the least one in it; of as good ones the least bits, since they are met rising. */
        static int bestHalf(City city) {
            int all = city.there;
            int leastOne = all & -all;
            int best = 0;
            int least = NONE;
            for (int half = 1; half < 1 << ONES; half++) {
                if ((half & ~all) != 0 || (half & leastOne) == 0 || !isHalf(half, all)) {
                    continue;
                }
                int sum = apartInHalves(city, half);
                if (least == NONE || sum < least) {
                    least = sum;
                    best = half;
                }
            }
            return best;
        }

        static int apartInHalves(City city, int half) {
            return apartWithin(city, half) + apartWithin(city, city.there & ~half);
        }

        static int yearsToMeet(City city, int one, int other) {
            int more = city.inclineOf(one) - city.inclineOf(other);
            int drift = city.driftOf(one) - city.driftOf(other);
            for (int years = 0; years < YEARS_TO_MEET; years++) {
                if (Protractor.leftOver(more + drift * years) == 0) {
                    return years;
                }
            }
            return NONE;
        }

        private static boolean isHalf(int half, int all) {
            int more = 2 * Integer.bitCount(half) - Integer.bitCount(all);
            return more >= -1 && more <= 1;
        }

        private static boolean isTriangle(City city, int set) {
            if ((set & ~city.there) != 0 || Integer.bitCount(set) != 3) {
                return false;
            }
            for (int one = 0; one < ONES; one++) {
                for (int other = 0; other < one; other++) {
                    if (areBoth(set, one, other) && city.between(one, other) < APART_IN_TRIANGLE) {
                        return false;
                    }
                }
            }
            return true;
        }

        private static int apartWithin(City city, int set) {
            int sum = 0;
            for (int one = 0; one < ONES; one++) {
                for (int other = 0; other < one; other++) {
                    if (areBoth(set, one, other)) {
                        sum += city.between(one, other);
                    }
                }
            }
            return sum;
        }

        private static boolean areBoth(int set, int one, int other) {
            return (set >> one & 1) != 0 && (set >> other & 1) != 0;
        }
    }

    /** How many turns each incline is from a told one. */
    private static final class Turns {
        private final int[] far;
        private final int[] waiting;
        private final int[] degrees;

        Turns() {
            far = new int[ROUND];
            waiting = new int[ROUND];
            degrees = new int[WAYS_TO_TURN];
        }

        /** Goes back from where he shall come to: each turn is also there the other way round. */
        void measureTo(int to, int a, int b, int c) {
            tellTurns(a, b, c);
            for (int incline = 0; incline < ROUND; incline++) {
                far[incline] = NONE;
            }
            far[Protractor.leftOver(to)] = 0;
            waiting[0] = to;
            int end = 1;
            for (int begin = 0; begin < end && begin < ROUND; begin++) {
                int from = waiting[begin];
                for (int turn = 0; turn < WAYS_TO_TURN; turn++) {
                    int next = Protractor.leftOver(from + degrees[turn]);
                    if (far[next] == NONE && end < ROUND) {
                        far[next] = fewestFrom(from) + 1;
                        waiting[end] = next;
                        end++;
                    }
                }
            }
        }

        int fewestFrom(int incline) {
            return far[Protractor.leftOver(incline)];
        }

        int firstFrom(int incline) {
            int fewest = fewestFrom(incline);
            if (fewest == NONE || fewest == 0) {
                return NONE;
            }
            for (int turn = 0; turn < WAYS_TO_TURN; turn++) {
                if (fewestFrom(incline + degrees[turn]) == fewest - 1) {
                    return turn;
                }
            }
            return NONE;
        }

        private void tellTurns(int a, int b, int c) {
            degrees[0] = a;
            degrees[1] = b;
            degrees[2] = c;
            degrees[3] = -a;
            degrees[4] = -b;
            degrees[5] = -c;
        }
    }

    /** What somebody was chalked with, year by year, and who he can have been. */
    private static final class Chalks {
        private final int[] inYears;
        private final int[] marks;
        int count;

        Chalks() {
            inYears = new int[MOST_CHALKS];
            marks = new int[MOST_CHALKS];
        }

        void become(Chalks other) {
            for (int i = 0; i < MOST_CHALKS; i++) {
                inYears[i] = other.inYears[i];
                marks[i] = other.marks[i];
            }
            count = other.count;
        }

        boolean put(int year, int mark) {
            if (count < 0 || count >= MOST_CHALKS) {
                return false;
            }
            inYears[count] = year;
            marks[count] = mark;
            count++;
            return true;
        }

        boolean fit(int incline, int drift, int wrongEnds) {
            int wrong = 0;
            for (int i = 0; i < count && i < MOST_CHALKS; i++) {
                int was = Protractor.leftOver(incline + drift * inYears[i]);
                if (was == marks[i]) {
                    continue;
                }
                wrong++;
                if (wrong > wrongEnds || was != Protractor.leftOver(ROUND - marks[i])) {
                    return false;
                }
            }
            return true;
        }

        int countFits(int wrongEnds) {
            int fits = 0;
            for (int incline = 0; incline < ROUND; incline++) {
                for (int drift = -MOST_DRIFT; drift <= MOST_DRIFT; drift++) {
                    if (fit(incline, drift, wrongEnds)) {
                        fits++;
                    }
                }
            }
            return fits;
        }

        int fitAt(int wrongEnds, int rank) {
            int fits = 0;
            for (int incline = 0; incline < ROUND; incline++) {
                for (int drift = -MOST_DRIFT; drift <= MOST_DRIFT; drift++) {
                    if (!fit(incline, drift, wrongEnds)) {
                        continue;
                    }
                    if (fits == rank) {
                        return CODE_STEP * incline + drift + MOST_DRIFT;
                    }
                    fits++;
                }
            }
            return NONE;
        }
    }

    /** Which year tells most of those apart whom all chalks fit. */
    private static final class Asking {
        private final int[] alike;
        int bestYear;
        int bestMost;

        Asking() {
            alike = new int[ROUND];
        }

        void weigh(Chalks chalks) {
            bestYear = NONE;
            bestMost = NONE;
            int fits = chalks.countFits(0);
            if (fits == 0) {
                return;
            }
            // so many fall on one chalk whatever the year: no later year can do better
            int leastMost = (fits + ROUND - 1) / ROUND;
            for (int year = 0; year <= LAST_CHALK_YEAR; year++) {
                int most = mostAlike(chalks, year);
                if (bestMost == NONE || most < bestMost) {
                    bestMost = most;
                    bestYear = year;
                }
                if (bestMost == leastMost) {
                    return;
                }
            }
        }

        private int mostAlike(Chalks chalks, int year) {
            for (int incline = 0; incline < ROUND; incline++) {
                alike[incline] = 0;
            }
            int most = 0;
            for (int incline = 0; incline < ROUND; incline++) {
                for (int drift = -MOST_DRIFT; drift <= MOST_DRIFT; drift++) {
                    if (chalks.fit(incline, drift, 0)) {
                        int then = Protractor.leftOver(incline + drift * year);
                        alike[then]++;
                        most = Math.max(most, alike[then]);
                    }
                }
            }
            return most;
        }
    }

    /** The game of taking degrees by turns. */
    private static final class Taking {
        private final boolean[] wins;

        Taking() {
            wins = new boolean[ROUND];
        }

        int firstOf(int degrees) {
            for (int left = 1; left < degrees && left < ROUND; left++) {
                wins[left] = winningTake(left) != NONE;
            }
            return winningTake(degrees);
        }

        /** Expects that less degrees are known already; looks at the takes rising. */
        private int winningTake(int left) {
            if (left <= 0) {
                return NONE;
            }
            if (isLost(left - 1)) {
                return 1;
            }
            int third = Math.max(1, left / 3);
            if (isLost(left - third)) {
                return third;
            }
            int half = Math.max(1, left / 2);
            return isLost(left - half) ? half : NONE;
        }

        private boolean isLost(int left) {
            return left >= 0 && left < ROUND && !wins[left];
        }
    }

    /** In how many of 10 by itself, once for each hour, ways the cock comes to each point. */
    private static final class Weathercock {
        private final long[] ways;
        private final long[] next;
        private int points;
        private long all;

        Weathercock() {
            ways = new long[MOST_RING];
            next = new long[MOST_RING];
        }

        void start(int ring, int at) {
            points = Math.min(Math.max(ring, LEAST_RING), MOST_RING);
            all = 1;
            for (int point = 0; point < points; point++) {
                ways[point] = point == at ? 1 : 0;
            }
        }

        void turn(int forwards, int back) {
            for (int point = 0; point < points && point < MOST_RING; point++) {
                next[point] = waysTo(point) * (TENTHS - forwards - back)
                        + waysTo(point - 1) * forwards + waysTo(point + 1) * back;
            }
            for (int point = 0; point < points && point < MOST_RING; point++) {
                ways[point] = next[point];
            }
            all *= TENTHS;
        }

        long upperAt(int point) {
            return shortened(waysTo(point), point);
        }

        long lowerAt(int point) {
            return shortened(all, point);
        }

        private long waysTo(int point) {
            // a point next to the last or ahead of the first goes round the ring
            int onRing = point < 0 ? point + points : point >= points ? point - points : point;
            return onRing >= 0 && onRing < MOST_RING ? ways[onRing] : 0;
        }

        private long shortened(long number, int point) {
            long divisor = commonDivisor(all, waysTo(point));
            return divisor == 0 ? number : number / divisor;
        }

        private static long commonDivisor(long number, long other) {
            long a = number;
            long b = other;
            for (int step = 0; step < 1000 && b != 0; step++) {
                long rest = a % b;
                a = b;
                b = rest;
            }
            return a;
        }
    }
}
