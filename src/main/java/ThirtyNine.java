/**
 * Conkers on strings: schools of counting, fights by a seed, told fights held
 * against told counts, what is learnt of them, seasons, trees and runs.
 * No call throws; a refusal is one of the negative constants.
 */
public final class ThirtyNine {
    public static final int NONE = -1, UNKNOWN = -101, OUTSIDE = -102, STATE = -103, FULL = -104;

    private static final int MOST_SCHOOLS = 3, MOST_NUTS = 8, MOST_TOLD = 10, MOST_COMERS = 8;
    private static final int MOST_LETTERS = 20, MOST_OTHERS = 5, MOST_LEARNT = 6;
    private static final int TOP_TOLD_COUNT = 99, TOP_COUNT = 999, TOP_REACH = 62, TOP_LIES = MOST_TOLD + MOST_NUTS;
    private static final int KIND_NUT = 0, KIND_OLD = 1, KIND_BAKED = 2, KIND_PICKLED = 3, KIND_PAPER = 4;
    private static final int BY_WINNER = 0, BY_LOSER = 1, BY_MORE = 2, BY_LESS = 3;
    private static final int EVEN = 5, ALL_TENTHS = 10;

    private final Page page = new Page();
    private final School[] schools = new School[MOST_SCHOOLS];
    private final Nut[] nuts = new Nut[MOST_NUTS];
    private final Bout bout = new Bout();
    private final Ledger ledger = new Ledger();
    private final Reaching reaching = new Reaching();
    private final Comers comers = new Comers();
    private final int[] seats = new int[4];
    private int schoolCount;
    private int nutCount;
    private int meetingRule = BY_WINNER;
    private int nutsKept = NONE;

    public ThirtyNine() {
    }

    // ---- schools

    public int letters(long w) {
        return page.write(w);
    }

    public int blank() {
        return page.clear();
    }

    public int fault() {
        return page.firstFault();
    }

    public int school() {
        if (!page.isSchool()) {
            return STATE;
        }
        if (schoolCount >= schools.length) {
            return FULL;
        }
        School founded = page.takeSchool(schoolCount);
        schools[schoolCount] = founded;
        schoolCount++;
        return founded.number;
    }

    public int counts(int school, int x, int y) {
        School known = schoolOf(school);
        if (known == null) {
            return UNKNOWN;
        }
        if (isOutside(x, 0, TOP_COUNT) || isOutside(y, 0, TOP_COUNT)) {
            return OUTSIDE;
        }
        return known.countAfter(x, y);
    }

    public int meeting(int how) {
        if (isOutside(how, BY_WINNER, BY_LESS)) {
            return OUTSIDE;
        }
        int before = meetingRule;
        meetingRule = how;
        return before;
    }

    // ---- nuts

    public int nut(int kind, int school, int hardness, int count, int weight) {
        if (isOutside(kind, KIND_NUT, KIND_PAPER)) {
            return OUTSIDE;
        }
        School known = schoolOf(school);
        if (known == null) {
            return UNKNOWN;
        }
        if (isOutside(hardness, 1, 9) || isOutside(count, 0, TOP_TOLD_COUNT) || isOutside(weight, 1, 99)) {
            return OUTSIDE;
        }
        if (nutCount >= nuts.length) {
            return FULL;
        }
        Nut made = newNut(kind, known, hardness);
        made.begins(nutCount, count, weight);
        nuts[nutCount] = made;
        nutCount++;
        return made.number;
    }

    public int as(int nut, int kind) {
        Nut known = nutOf(nut);
        if (known == null) {
            return UNKNOWN;
        }
        if (isOutside(kind, KIND_NUT, KIND_PAPER)) {
            return OUTSIDE;
        }
        return isOfKind(known, kind) ? known.number : NONE;
    }

    public int about(int nut, int what) {
        Nut known = nutOf(nut);
        if (known == null) {
            return UNKNOWN;
        }
        return isOutside(what, 0, 7) ? OUTSIDE : known.tell(what);
    }

    public int beats(int a, int b) {
        Nut winner = nutOf(a);
        Nut loser = nutOf(b);
        if (winner == null || loser == null || winner == loser) {
            return UNKNOWN;
        }
        if (winner.broken || loser.broken) {
            return STATE;
        }
        return winner.breaks(loser, meetingRule);
    }

    public int fight(int a, int b, int seed) {
        Nut first = nutOf(a);
        Nut second = nutOf(b);
        if (first == null || second == null || first == second) {
            return UNKNOWN;
        }
        if (seed < 0) {
            return OUTSIDE;
        }
        if (first.broken || second.broken) {
            return STATE;
        }
        bout.strikeOut(first, second, seed);
        first.cracks = bout.cracksOfFirst;
        second.cracks = bout.cracksOfSecond;
        if (bout.winner == first.number) {
            first.breaks(second, meetingRule);
        } else if (bout.winner == second.number) {
            second.breaks(first, meetingRule);
        }
        return bout.winner;
    }

    public int would(int a, int b, int seed, int what) {
        Nut first = nutOf(a);
        Nut second = nutOf(b);
        if (first == null || second == null || first == second) {
            return UNKNOWN;
        }
        if (seed < 0 || isOutside(what, 0, 3)) {
            return OUTSIDE;
        }
        if (first.broken || second.broken) {
            return STATE;
        }
        bout.strikeOut(first, second, seed);
        return bout.tell(what);
    }

    public int scales(int nut, int weight) {
        Nut known = nutOf(nut);
        if (known == null) {
            return UNKNOWN;
        }
        if (isOutside(weight, 1, 199)) {
            return OUTSIDE;
        }
        if (5 * weight < 4 * known.weight) {
            return KIND_BAKED;
        }
        return 10 * weight > 11 * known.weight ? KIND_PICKLED : KIND_NUT;
    }

    // ---- told fights and counts

    public int told(int winner, int loser) {
        Nut won = nutOf(winner);
        Nut lost = nutOf(loser);
        if (won == null || lost == null || won == lost) {
            return UNKNOWN;
        }
        return ledger.add(won, lost);
    }

    public int claim(int nut, int count) {
        Nut known = nutOf(nut);
        if (known == null) {
            return UNKNOWN;
        }
        if (isOutside(count, NONE, TOP_COUNT)) {
            return OUTSIDE;
        }
        int before = known.claim;
        known.claim = count;
        return before;
    }

    public int by(int set, int nut) {
        Nut known = nutOf(nut);
        if (known == null && nut != NONE) {
            return UNKNOWN;
        }
        if (!ledger.hasSet(set)) {
            return OUTSIDE;
        }
        boolean canBe = ledger.follow(set, nuts, meetingRule);
        if (known == null) {
            return canBe ? 1 : 0;
        }
        return canBe ? ledger.followedCount(known) : STATE;
    }

    public int lies(int what) {
        if (isOutside(what, 0, 1)) {
            return OUTSIDE;
        }
        ledger.findFewestLies(nuts, meetingRule);
        return what == 0 ? ledger.fewestLies : ledger.fewestSet;
    }

    public int most(int nut, int lies) {
        Nut known = nutOf(nut);
        if (known == null) {
            return UNKNOWN;
        }
        return isOutside(lies, 0, TOP_LIES) ? OUTSIDE : ledger.greatestCount(known, lies, nuts, meetingRule);
    }

    public int whose(int fight) {
        if (isOutside(fight, 0, ledger.told - 1)) {
            return UNKNOWN;
        }
        ledger.findFewestLies(nuts, meetingRule);
        return ledger.fewestWithout(fight, nuts, meetingRule);
    }

    public long reach(int nut, int others) {
        Nut known = nutOf(nut);
        if (known == null) {
            return UNKNOWN;
        }
        boolean named = others >= 0 && others < 1 << nutCount && (others >> known.number & 1) == 0;
        if (!named || Integer.bitCount(others) > MOST_OTHERS) {
            return OUTSIDE;
        }
        reaching.gather(nuts, others, known);
        return reaching.allCounts(meetingRule);
    }

    // ---- what is learnt

    public long odds(int a, int b, int part) {
        Nut winner = nutOf(a);
        Nut loser = nutOf(b);
        if (winner == null || loser == null || winner == loser) {
            return UNKNOWN;
        }
        if (isOutside(part, 0, 1)) {
            return OUTSIDE;
        }
        return nutCount > MOST_LEARNT ? STATE : ledger.learntOdds(winner, loser, nutCount, part);
    }

    public long likely(int nut, int how, int part) {
        Nut known = nutOf(nut);
        if (known == null) {
            return UNKNOWN;
        }
        if (isOutside(how, 1, Ledger.GRADES) || isOutside(part, 0, 1)) {
            return OUTSIDE;
        }
        return nutCount > MOST_LEARNT ? STATE : ledger.learntGrade(known, how, nutCount, part);
    }

    // ---- a season, trees, runs

    public int comer(int school, int count, int tenths) {
        School known = schoolOf(school);
        if (known == null) {
            return UNKNOWN;
        }
        if (isOutside(count, 0, TOP_TOLD_COUNT) || isOutside(tenths, 0, ALL_TENTHS)) {
            return OUTSIDE;
        }
        return comers.add(known, count, tenths);
    }

    public int gone() {
        return comers.clear();
    }

    public long worth(int nut, int set, int part) {
        Nut known = nutOf(nut);
        if (known == null) {
            return UNKNOWN;
        }
        if (!comers.hasSet(set) || isOutside(part, 0, 1)) {
            return OUTSIDE;
        }
        long above = comers.worthAbove(known, set, meetingRule);
        return inLowestTerms(above, power(ALL_TENTHS, Integer.bitCount(set)), part);
    }

    public int season(int nut) {
        Nut known = nutOf(nut);
        return known == null ? UNKNOWN : comers.bestSet(known, meetingRule);
    }

    public int tree(int a, int b, int c, int d, int who, int part) {
        if (!takeSeats(a, b, c, d)) {
            return UNKNOWN;
        }
        if (isOutside(who, 0, 3) || isOutside(part, 0, 1)) {
            return OUTSIDE;
        }
        int third = who < 2 ? 2 : 0;
        int fourth = third + 1;
        int overThird = tenthsFor(third, fourth) * tenthsFor(who, third);
        int overFourth = tenthsFor(fourth, third) * tenthsFor(who, fourth);
        int above = tenthsFor(who, who ^ 1) * (overThird + overFourth);
        return (int) inLowestTerms(above, power(ALL_TENTHS, 3), part);
    }

    public int last(int a, int b, int c, int d) {
        if (!takeSeats(a, b, c, d)) {
            return UNKNOWN;
        }
        // Where a sits with b they meet at once, never last; the other two trees always have some chance.
        int withThird = tenthsFor(0, 2) * tenthsFor(1, 3);
        int withFourth = tenthsFor(0, 3) * tenthsFor(1, 2);
        return withFourth > withThird ? 2 : 1;
    }

    public int run(int w, int tenths, int part) {
        if (isOutside(w, 1, 9) || isOutside(tenths, 0, ALL_TENTHS) || isOutside(part, 0, 1)) {
            return OUTSIDE;
        }
        return (int) inLowestTerms(power(tenths, w), power(ALL_TENTHS, w), part);
    }

    // ---- what is told

    public int image() {
        for (int i = 0; i < nuts.length && nuts[i] != null; i++) {
            nuts[i].keep();
        }
        ledger.keep();
        nutsKept = nutCount;
        return nutCount;
    }

    public int restore() {
        if (nutsKept < 0) {
            return STATE;
        }
        for (int i = 0; i < nutsKept && i < nuts.length && nuts[i] != null; i++) {
            nuts[i].goBack();
        }
        ledger.goBack();
        return nutCount;
    }

    public int count(int what) {
        switch (what) {
            case 0:
                return schoolCount;
            case 1:
                return nutCount;
            case 2:
                return brokenNuts();
            case 3:
                return ledger.told;
            case 4:
                return claimsMade();
            case 5:
                return comers.size;
            case 6:
                return page.size;
            default:
                return OUTSIDE;
        }
    }

    public long digest() {
        long h = mixSchools(409);
        h = mixed(h, meetingRule);
        h = mixNuts(h);
        h = ledger.mixInto(h);
        ledger.findFewestLies(nuts, meetingRule);
        h = mixed(mixed(h, ledger.fewestLies), ledger.fewestSet);
        h = comers.mixInto(h);
        h = mixSeasons(h);
        h = page.mixInto(h);
        for (int what = 0; what <= 6; what++) {
            h = mixed(h, count(what));
        }
        return h;
    }

    // ---- helpers

    private static boolean isOutside(int value, int least, int greatest) {
        return value < least || value > greatest;
    }

    private School schoolOf(int number) {
        return isOutside(number, 0, schools.length - 1) ? null : schools[number];
    }

    private Nut nutOf(int number) {
        return isOutside(number, 0, nuts.length - 1) ? null : nuts[number];
    }

    private static Nut newNut(int kind, School school, int hardness) {
        switch (kind) {
            case KIND_OLD:
                return new Old(school, hardness);
            case KIND_BAKED:
                return new Baked(school, hardness);
            case KIND_PICKLED:
                return new Pickled(school, hardness);
            case KIND_PAPER:
                return new Paper(school, hardness);
            default:
                return new Nut(school, hardness);
        }
    }

    private static boolean isOfKind(Nut nut, int kind) {
        switch (kind) {
            case KIND_OLD:
                return nut instanceof Old;
            case KIND_BAKED:
                return nut instanceof Baked;
            case KIND_PICKLED:
                return nut instanceof Pickled;
            case KIND_PAPER:
                return nut instanceof Paper;
            default:
                return true;
        }
    }

    private int brokenNuts() {
        int broken = 0;
        for (int i = 0; i < nuts.length && nuts[i] != null; i++) {
            if (nuts[i].broken) {
                broken++;
            }
        }
        return broken;
    }

    private int claimsMade() {
        int made = 0;
        for (int i = 0; i < nuts.length && nuts[i] != null; i++) {
            if (nuts[i].claim != NONE) {
                made++;
            }
        }
        return made;
    }

    /** Whether these are four unlike nuts; how hard each is stands in the seats then. */
    private boolean takeSeats(int a, int b, int c, int d) {
        boolean twice = a == b || a == c || a == d || b == c || b == d || c == d;
        Nut first = nutOf(a);
        Nut second = nutOf(b);
        Nut third = nutOf(c);
        Nut fourth = nutOf(d);
        if (twice || first == null || second == null || third == null || fourth == null) {
            return false;
        }
        seats[0] = first.hard();
        seats[1] = second.hard();
        seats[2] = third.hard();
        seats[3] = fourth.hard();
        return true;
    }

    private int tenthsFor(int seat, int against) {
        int tenths = EVEN + seats[seat] - seats[against];
        return Math.max(1, Math.min(9, tenths));
    }

    private static long power(long base, int exponent) {
        long product = 1;
        for (int i = 0; i < exponent; i++) {
            product *= base;
        }
        return product;
    }

    private static long inLowestTerms(long above, long below, int part) {
        long common = greatestDivisor(above, below);
        if (common == 0) {
            return 0;
        }
        return (part == 0 ? above : below) / common;
    }

    private static long greatestDivisor(long a, long b) {
        long divisor = a;
        long rest = b;
        // Two longs need fewer than a hundred steps.
        for (int step = 0; step < 200 && rest != 0; step++) {
            long next = divisor % rest;
            divisor = rest;
            rest = next;
        }
        return divisor;
    }

    private static long mixed(long h, long number) {
        return 31 * h + number;
    }

    private long mixSchools(long start) {
        long h = start;
        for (int i = 0; i < schools.length && schools[i] != null; i++) {
            h = mixed(h, schools[i].countAfter(3, 4));
            h = mixed(h, schools[i].countAfter(7, 2));
        }
        return h;
    }

    private long mixNuts(long start) {
        long h = start;
        for (int i = 0; i < nuts.length && nuts[i] != null; i++) {
            for (int what = 0; what <= 7; what++) {
                h = mixed(h, nuts[i].tell(what));
            }
            h = mixed(h, nuts[i].claim);
        }
        return h;
    }

    private long mixSeasons(long start) {
        long h = start;
        for (int i = 0; i < nuts.length && nuts[i] != null; i++) {
            h = mixed(h, comers.bestSet(nuts[i], meetingRule));
        }
        return h;
    }

    // ---- the parts

    /** The page of letters, and how far a school can be read from it. */
    private static final class Page {
        private static final int TERM = 0, DIGIT_OR_SIGN = 1, SIGN = 2, TANGLES = 3, NOTHING = 4;
        private static final int MOST_TERMS = 4, BYTES = 8, TOP_LETTER = 126;

        private final int[] letters = new int[MOST_LETTERS];
        private School draft = new School();
        private int size;
        private int awaited;
        private int terms;
        private int digit;

        int write(long w) {
            int more = lettersIn(w);
            if (more < 0) {
                return OUTSIDE;
            }
            if (size + more > letters.length) {
                return FULL;
            }
            for (int i = 0; i < more; i++) {
                letters[size + i] = byteOf(w, i);
            }
            size += more;
            return size;
        }

        private static int byteOf(long w, int place) {
            return (int) (w >>> 8 * place) & 255;
        }

        /** How many letters w tells; NONE, if its bytes are not as told. */
        private static int lettersIn(long w) {
            int found = 0;
            for (int i = 0; i < BYTES; i++) {
                int code = byteOf(w, i);
                boolean behindZero = found < i;
                if (code > TOP_LETTER || code != 0 && behindZero) {
                    return NONE;
                }
                if (code != 0) {
                    found++;
                }
            }
            return found;
        }

        int clear() {
            int before = size;
            size = 0;
            return before;
        }

        /** Reads the page from its start; what was read up to the answered place stays in the draft. */
        int firstFault() {
            awaited = TERM;
            terms = 0;
            draft.forget();
            for (int place = 0; place < size && place < letters.length; place++) {
                if (!reads(letters[place])) {
                    return place;
                }
            }
            return size;
        }

        boolean isSchool() {
            return firstFault() == size && awaited == NOTHING;
        }

        /** The school that isSchool() has just read; the page is empty then. */
        School takeSchool(int number) {
            School taken = draft;
            taken.number = number;
            draft = new School();
            size = 0;
            return taken;
        }

        private boolean reads(int letter) {
            switch (awaited) {
                case TERM:
                    return readsTerm(letter);
                case DIGIT_OR_SIGN:
                    return isDigit(letter) ? readsSecondDigit(letter) : readsSign(letter);
                case SIGN:
                    return readsSign(letter);
                case TANGLES:
                    awaited = NOTHING;
                    return draft.takesTangles(letter);
                default:
                    return false;
            }
        }

        private static boolean isDigit(int letter) {
            return letter >= '0' && letter <= '9';
        }

        private boolean readsTerm(int letter) {
            terms++;
            if (!isDigit(letter)) {
                awaited = SIGN;
                return draft.takesLetter(letter);
            }
            digit = letter - '0';
            draft.takesNumber(digit);
            awaited = digit == 0 ? SIGN : DIGIT_OR_SIGN;
            return true;
        }

        private boolean readsSecondDigit(int letter) {
            // The first digit was taken once already, and stands for ten times as much now.
            draft.takesNumber(9 * digit + letter - '0');
            awaited = SIGN;
            return true;
        }

        private boolean readsSign(int letter) {
            if (letter == '+' && terms < MOST_TERMS) {
                awaited = TERM;
                return true;
            }
            awaited = TANGLES;
            return letter == ';';
        }

        long mixInto(long start) {
            long h = start;
            for (int i = 0; i < size && i < letters.length; i++) {
                h = mixed(h, letters[i]);
            }
            return h;
        }
    }

    /** A rule of counting, as how often each letter is taken, and a rule of tangled strings. */
    private static final class School {
        static final int STRIKES_AGAIN = 't', OTHER_STRIKES = 'o', LESSER_STRIKES = 'n';

        int number;
        int tangles;
        private int timesX;
        private int timesY;
        private int timesGreater;
        private int timesLesser;
        private int timesHalf;
        private int always;

        void forget() {
            timesX = 0;
            timesY = 0;
            timesGreater = 0;
            timesLesser = 0;
            timesHalf = 0;
            always = 0;
        }

        void takesNumber(int more) {
            always += more;
        }

        boolean takesLetter(int letter) {
            switch (letter) {
                case 'x':
                    timesX++;
                    return true;
                case 'y':
                    timesY++;
                    return true;
                case 'm':
                    timesGreater++;
                    return true;
                case 'l':
                    timesLesser++;
                    return true;
                case 'h':
                    timesHalf++;
                    return true;
                default:
                    return false;
            }
        }

        boolean takesTangles(int letter) {
            tangles = letter;
            return letter == STRIKES_AGAIN || letter == OTHER_STRIKES || letter == LESSER_STRIKES;
        }

        int countAfter(int x, int y) {
            int sum = always + timesX * x + timesY * y + timesHalf * (y / 2);
            sum += timesGreater * Math.max(x, y) + timesLesser * Math.min(x, y);
            return Math.min(TOP_COUNT, sum);
        }

        /** What the count x of a winner of this school becomes by a loser's y. */
        int countOver(School loser, int x, int y, int rule) {
            int byThis = countAfter(x, y);
            if (number == loser.number || rule == BY_WINNER) {
                return byThis;
            }
            int byLoser = loser.countAfter(x, y);
            if (rule == BY_LOSER) {
                return byLoser;
            }
            return rule == BY_MORE ? Math.max(byThis, byLoser) : Math.min(byThis, byLoser);
        }
    }

    /** A nut of the plain kind, and what all kinds share. */
    private static class Nut {
        final School school;
        final int hardness;
        int number;
        int firstTally;
        int weight;
        int tally;
        int cracks;
        boolean broken;
        int claim = NONE;
        private int keptTally;
        private int keptCracks;
        private boolean keptBroken;
        private int keptClaim;

        Nut(School school, int hardness) {
            this.school = school;
            this.hardness = hardness;
        }

        final void begins(int itsNumber, int itsTally, int itsWeight) {
            number = itsNumber;
            firstTally = itsTally;
            tally = itsTally;
            weight = itsWeight;
        }

        int kind() {
            return KIND_NUT;
        }

        int hard() {
            return hardness;
        }

        final int tell(int what) {
            switch (what) {
                case 0:
                    return kind();
                case 1:
                    return school.number;
                case 2:
                    return hardness;
                case 3:
                    return hard();
                case 4:
                    return tally;
                case 5:
                    return weight;
                case 6:
                    return cracks;
                default:
                    return broken ? 1 : 0;
            }
        }

        final int breaks(Nut loser, int rule) {
            tally = school.countOver(loser.school, tally, loser.tally, rule);
            loser.broken = true;
            return tally;
        }

        final void keep() {
            keptTally = tally;
            keptCracks = cracks;
            keptBroken = broken;
            keptClaim = claim;
        }

        final void goBack() {
            tally = keptTally;
            cracks = keptCracks;
            broken = keptBroken;
            claim = keptClaim;
        }
    }

    private static final class Old extends Nut {
        Old(School school, int hardness) {
            super(school, hardness);
        }

        int kind() {
            return KIND_OLD;
        }

        int hard() {
            return hardness + 1;
        }
    }

    private static class Baked extends Nut {
        Baked(School school, int hardness) {
            super(school, hardness);
        }

        int kind() {
            return KIND_BAKED;
        }

        int hard() {
            return hardness + 2;
        }
    }

    private static final class Pickled extends Baked {
        Pickled(School school, int hardness) {
            super(school, hardness);
        }

        int kind() {
            return KIND_PICKLED;
        }

        int hard() {
            return hardness + 3;
        }
    }

    private static final class Paper extends Nut {
        Paper(School school, int hardness) {
            super(school, hardness);
        }

        int kind() {
            return KIND_PAPER;
        }

        int hard() {
            return 0;
        }
    }

    /** A fight by a seed, told in its fields alone: the nuts stay as they are. */
    private static final class Bout {
        private static final int MOST_STRIKES = 50;

        int winner;
        int cracksOfFirst;
        int cracksOfSecond;
        private int seed;
        private int strikes;
        private int tangled;

        void strikeOut(Nut first, Nut second, int firstSeed) {
            winner = NONE;
            cracksOfFirst = first.cracks;
            cracksOfSecond = second.cracks;
            seed = firstSeed;
            strikes = 0;
            tangled = 0;
            boolean firstStrikes = true;
            for (int i = 0; i < MOST_STRIKES && winner == NONE; i++) {
                Nut striker = firstStrikes ? first : second;
                Nut struck = firstStrikes ? second : first;
                strikes++;
                if (draw(10) < 2) {
                    tangled++;
                    firstStrikes = nextStriker(striker, struck) == first.number;
                } else {
                    strike(striker, struck, firstStrikes);
                    firstStrikes = !firstStrikes;
                }
            }
        }

        private int draw(int sides) {
            // Wrapping at 2 to the 32 leaves the rest by 2 to the 31 as it is.
            seed = 1103515245 * seed + 12345 & Integer.MAX_VALUE;
            return sides <= 0 ? 0 : seed / 65536 % sides;
        }

        private static int nextStriker(Nut striker, Nut struck) {
            int tangles = striker.school.tangles;
            if (tangles == School.STRIKES_AGAIN) {
                return striker.number;
            }
            return tangles == School.OTHER_STRIKES ? struck.number : Math.min(striker.number, struck.number);
        }

        private void strike(Nut striker, Nut struck, boolean firstStrikes) {
            int cracks = firstStrikes ? cracksOfSecond : cracksOfFirst;
            int chance = 15 + 5 * (striker.hard() - struck.hard()) + 4 * cracks;
            if (draw(100) < Math.max(1, Math.min(95, chance))) {
                winner = striker.number;
            } else if (firstStrikes) {
                cracksOfSecond++;
            } else {
                cracksOfFirst++;
            }
        }

        int tell(int what) {
            switch (what) {
                case 0:
                    return winner;
                case 1:
                    return strikes;
                case 2:
                    return tangled;
                default:
                    return seed;
            }
        }
    }

    /** The told fights: held against the claims, and what is learnt from them. */
    private static final class Ledger {
        static final int GRADES = 3;

        int told;
        int fewestLies;
        int fewestSet;
        private final int[] winners = new int[MOST_TOLD];
        private final int[] losers = new int[MOST_TOLD];
        private final int[] tallies = new int[MOST_NUTS];
        private final int[] grades = new int[MOST_NUTS];
        private int keptTold;

        int add(Nut winner, Nut loser) {
            if (told >= winners.length) {
                return FULL;
            }
            winners[told] = winner.number;
            losers[told] = loser.number;
            told++;
            return told;
        }

        /** Fights only come behind those that are kept, so how many there were is enough to go back to them. */
        void keep() {
            keptTold = told;
        }

        void goBack() {
            told = keptTold;
        }

        boolean hasSet(int set) {
            return set >= 0 && set < 1 << told;
        }

        /** Whether a set of told fights can be; the counts by it stand in the tallies then. */
        boolean follow(int set, Nut[] nuts, int rule) {
            for (int i = 0; i < nuts.length && nuts[i] != null; i++) {
                tallies[i] = nuts[i].firstTally;
            }
            int broken = 0;
            for (int i = 0; i < told; i++) {
                if ((set >> i & 1) != 0) {
                    if ((broken >> winners[i] & 1) != 0 || (broken >> losers[i] & 1) != 0) {
                        return false;
                    }
                    countFight(nuts[winners[i]], nuts[losers[i]], rule);
                    broken |= 1 << losers[i];
                }
            }
            return true;
        }

        private void countFight(Nut winner, Nut loser, int rule) {
            if (winner != null && loser != null) {
                int x = tallies[winner.number];
                int y = tallies[loser.number];
                tallies[winner.number] = winner.school.countOver(loser.school, x, y, rule);
            }
        }

        int followedCount(Nut nut) {
            return tallies[nut.number];
        }

        /** The lies of the set that was followed last. */
        private int liesOf(int set, Nut[] nuts) {
            int lies = told - Integer.bitCount(set);
            for (int i = 0; i < nuts.length && nuts[i] != null; i++) {
                if (nuts[i].claim != NONE && nuts[i].claim != tallies[i]) {
                    lies++;
                }
            }
            return lies;
        }

        void findFewestLies(Nut[] nuts, int rule) {
            fewestLies = TOP_LIES + 1;
            fewestSet = 0;
            for (int set = 0; set < 1 << told; set++) {
                if (follow(set, nuts, rule)) {
                    int lies = liesOf(set, nuts);
                    boolean moreFights = Integer.bitCount(set) > Integer.bitCount(fewestSet);
                    if (lies < fewestLies || lies == fewestLies && moreFights) {
                        fewestLies = lies;
                        fewestSet = set;
                    }
                }
            }
        }

        int greatestCount(Nut nut, int mostLies, Nut[] nuts, int rule) {
            int greatest = NONE;
            for (int set = 0; set < 1 << told; set++) {
                if (follow(set, nuts, rule) && liesOf(set, nuts) <= mostLies) {
                    greatest = Math.max(greatest, followedCount(nut));
                }
            }
            return greatest;
        }

        /** In how many sets of the fewest lies, found ahead of this, a fight is not. */
        int fewestWithout(int fight, Nut[] nuts, int rule) {
            int sets = 0;
            for (int set = 0; set < 1 << told; set++) {
                if ((set >> fight & 1) == 0 && follow(set, nuts, rule) && liesOf(set, nuts) == fewestLies) {
                    sets++;
                }
            }
            return sets;
        }

        long learntOdds(Nut winner, Nut loser, int nutCount, int part) {
            long above = 0;
            long below = 0;
            long ways = power(GRADES, nutCount);
            for (int way = 0; way < ways; way++) {
                grade(way);
                long weight = weightOfGrades();
                above += weight * (EVEN + grades[winner.number] - grades[loser.number]);
                below += weight * ALL_TENTHS;
            }
            return inLowestTerms(above, below, part);
        }

        long learntGrade(Nut nut, int grade, int nutCount, int part) {
            long above = 0;
            long below = 0;
            long ways = power(GRADES, nutCount);
            for (int way = 0; way < ways; way++) {
                grade(way);
                long weight = weightOfGrades();
                above += grades[nut.number] == grade ? weight : 0;
                below += weight;
            }
            return inLowestTerms(above, below, part);
        }

        private void grade(int way) {
            int rest = way;
            for (int i = 0; i < grades.length; i++) {
                grades[i] = 1 + rest % GRADES;
                rest /= GRADES;
            }
        }

        /** How likely the told fights are by these grades, in parts that all ways share. */
        private long weightOfGrades() {
            long weight = 1;
            for (int i = 0; i < told; i++) {
                weight *= EVEN + grades[winners[i]] - grades[losers[i]];
            }
            return weight;
        }

        long mixInto(long start) {
            long h = start;
            for (int i = 0; i < told; i++) {
                h = mixed(mixed(h, winners[i]), losers[i]);
            }
            return h;
        }
    }

    /** All counts that a nut may come to, found for each nut over ever larger sets of others. */
    private static final class Reaching {
        private static final int SETS = 1 << MOST_OTHERS;

        private final Nut[] heads = new Nut[MOST_OTHERS + 1];
        private final long[] found = new long[(MOST_OTHERS + 1) * SETS];
        private int size;

        /** The others come first; the nut itself is behind them, in no set. */
        void gather(Nut[] nuts, int others, Nut nut) {
            size = 0;
            for (int i = 0; i < nuts.length && size < MOST_OTHERS; i++) {
                if ((others >> i & 1) != 0) {
                    heads[size] = nuts[i];
                    size++;
                }
            }
            heads[size] = nut;
        }

        long allCounts(int rule) {
            for (int set = 0; set < 1 << size; set++) {
                for (int head = 0; head <= size; head++) {
                    if ((set >> head & 1) == 0) {
                        found[head * SETS + set] = set == 0 ? firstCount(heads[head]) : countsOver(head, set, rule);
                    }
                }
            }
            return found[size * SETS + (1 << size) - 1];
        }

        private static long firstCount(Nut nut) {
            return nut == null ? 0 : 1L << Math.min(TOP_REACH, nut.firstTally);
        }

        /** Whichever the head breaks last has broken a part of the rest, the head what is left of it. */
        private long countsOver(int head, int set, int rule) {
            long counts = 0;
            for (int last = 0; last < size; last++) {
                int rest = set & ~(1 << last);
                for (int part = 0; rest != set && part <= rest; part++) {
                    if ((part & ~rest) == 0) {
                        long ours = found[head * SETS + (rest & ~part)];
                        long theirs = found[last * SETS + part];
                        counts |= countsOfAll(heads[head], heads[last], ours, theirs, rule);
                    }
                }
            }
            return counts;
        }

        private static long countsOfAll(Nut winner, Nut loser, long ours, long theirs, int rule) {
            if (winner == null || loser == null) {
                return 0;
            }
            long counts = 0;
            long xs = ours;
            for (int left = Long.bitCount(ours); left > 0; left--) {
                int x = Long.numberOfTrailingZeros(xs);
                xs &= xs - 1;
                long ys = theirs;
                for (int behind = Long.bitCount(theirs); behind > 0; behind--) {
                    int y = Long.numberOfTrailingZeros(ys);
                    ys &= ys - 1;
                    int count = winner.school.countOver(loser.school, x, y, rule);
                    counts |= 1L << Math.min(TOP_REACH, count);
                }
            }
            return counts;
        }
    }

    /** The comers of a season, in order. */
    private static final class Comers {
        int size;
        private final School[] schools = new School[MOST_COMERS];
        private final int[] tallies = new int[MOST_COMERS];
        private final int[] tenths = new int[MOST_COMERS];

        int add(School school, int tally, int tenthsToBeat) {
            if (size >= schools.length) {
                return FULL;
            }
            schools[size] = school;
            tallies[size] = tally;
            tenths[size] = tenthsToBeat;
            size++;
            return size;
        }

        int clear() {
            int before = size;
            size = 0;
            return before;
        }

        boolean hasSet(int set) {
            return set >= 0 && set < 1 << size;
        }

        /** What a set is worth, in parts of ten to the number of its fights. */
        long worthAbove(Nut nut, int set, int rule) {
            int tally = nut.tally;
            int fought = 0;
            long chances = 1;
            for (int i = 0; i < size && schools[i] != null; i++) {
                if ((set >> i & 1) != 0) {
                    chances *= Math.max(0, tenths[i] - fought);
                    tally = nut.school.countOver(schools[i], tally, tallies[i], rule);
                    fought++;
                }
            }
            return tally * chances;
        }

        int bestSet(Nut nut, int rule) {
            int best = 0;
            long greatest = NONE;
            for (int set = 0; set < 1 << size; set++) {
                int fights = Integer.bitCount(set);
                long worth = worthAbove(nut, set, rule) * power(ALL_TENTHS, MOST_COMERS - fights);
                boolean fewer = fights < Integer.bitCount(best);
                if (worth > greatest || worth == greatest && fewer) {
                    greatest = worth;
                    best = set;
                }
            }
            return best;
        }

        long mixInto(long start) {
            long h = start;
            for (int i = 0; i < size && schools[i] != null; i++) {
                h = mixed(mixed(mixed(h, schools[i].number), tallies[i]), tenths[i]);
            }
            return h;
        }
    }
}
