import java.math.BigInteger;
import java.util.ArrayList;
import java.util.Arrays;
import java.util.HashSet;
import java.util.List;
import java.util.Set;
import java.util.regex.Matcher;
import java.util.regex.Pattern;

/**
 * What the document promises, written a second time as slowly and plainly as can be:
 * texts read by patterns, orders of fights tried one by one, chances as wide fractions.
 */
final class Model {
    private static final String TERM = "(x|y|m|l|h|0|[1-9][0-9]?)";
    private static final Pattern SCHOOL = Pattern.compile(TERM + "([+]" + TERM + "){0,3};[ton]");
    private static final int UNKNOWN = ThirtyNine.UNKNOWN, OUTSIDE = ThirtyNine.OUTSIDE;
    private static final int STATE = ThirtyNine.STATE, FULL = ThirtyNine.FULL, NONE = ThirtyNine.NONE;

    private static final class OneNut {
        int kind, school, hardness, first, weight, count, cracks, claim = NONE;
        boolean broken;

        OneNut copy() {
            OneNut other = new OneNut();
            other.count = count;
            other.cracks = cracks;
            other.broken = broken;
            other.claim = claim;
            return other;
        }

        int hard() {
            return kind == 4 ? 0 : hardness + kind;
        }
    }

    private String page = "";
    private final List<String> schools = new ArrayList<>();
    private final List<OneNut> nuts = new ArrayList<>();
    private final List<int[]> comers = new ArrayList<>();
    private List<int[]> told = new ArrayList<>();
    private List<OneNut> keptNuts;
    private List<int[]> keptTold;
    private int how;

    // ---- schools

    int letters(long w) {
        StringBuilder more = new StringBuilder();
        boolean zero = false;
        for (int i = 0; i < 8; i++) {
            long code = w >> 8 * i & 255L;
            if (code > 126 || zero && code != 0) {
                return OUTSIDE;
            }
            zero |= code == 0;
            more.append(zero ? "" : String.valueOf((char) code));
        }
        if (page.length() + more.length() > 20) {
            return FULL;
        }
        page += more;
        return page.length();
    }

    int blank() {
        int before = page.length();
        page = "";
        return before;
    }

    int fault() {
        for (int i = 1; i <= page.length(); i++) {
            Matcher matcher = SCHOOL.matcher(page.substring(0, i));
            if (!matcher.matches() && !matcher.hitEnd()) {
                return i - 1;
            }
        }
        return page.length();
    }

    int school() {
        if (!SCHOOL.matcher(page).matches()) {
            return STATE;
        }
        if (schools.size() == 3) {
            return FULL;
        }
        schools.add(page);
        page = "";
        return schools.size() - 1;
    }

    private int value(int school, int x, int y) {
        int sum = 0;
        for (String term : schools.get(school).split(";")[0].split("[+]")) {
            switch (term.charAt(0)) {
                case 'x': sum += x; break;
                case 'y': sum += y; break;
                case 'm': sum += x > y ? x : y; break;
                case 'l': sum += x < y ? x : y; break;
                case 'h': sum += y >> 1; break;
                default: sum += Integer.parseInt(term);
            }
        }
        return sum > 999 ? 999 : sum;
    }

    int counts(int school, int x, int y) {
        if (school < 0 || school >= schools.size()) {
            return UNKNOWN;
        }
        return x < 0 || x > 999 || y < 0 || y > 999 ? OUTSIDE : value(school, x, y);
    }

    int meeting(int next) {
        if (next < 0 || next > 3) {
            return OUTSIDE;
        }
        int before = how;
        how = next;
        return before;
    }

    private int met(int winner, int x, int loser, int y) {
        int mine = value(winner, x, y);
        int other = value(loser, x, y);
        if (winner == loser) {
            return mine;
        }
        return new int[] {mine, other, Math.max(mine, other), Math.min(mine, other)}[how];
    }

    // ---- nuts

    private boolean no(int nut) {
        return nut < 0 || nut >= nuts.size();
    }

    private boolean no(int a, int b) {
        return no(a) || no(b) || a == b;
    }

    int nut(int kind, int school, int hardness, int count, int weight) {
        if (kind < 0 || kind > 4) {
            return OUTSIDE;
        }
        if (school < 0 || school >= schools.size()) {
            return UNKNOWN;
        }
        if (hardness < 1 || hardness > 9 || count < 0 || count > 99 || weight < 1 || weight > 99) {
            return OUTSIDE;
        }
        if (nuts.size() == 8) {
            return FULL;
        }
        OneNut nut = new OneNut();
        nut.kind = kind;
        nut.school = school;
        nut.hardness = hardness;
        nut.first = count;
        nut.count = count;
        nut.weight = weight;
        nuts.add(nut);
        return nuts.size() - 1;
    }

    int as(int nut, int kind) {
        if (no(nut)) {
            return UNKNOWN;
        }
        if (kind < 0 || kind > 4) {
            return OUTSIDE;
        }
        int[] such = {0b00001, 0b00011, 0b00101, 0b01101, 0b10001};
        return (such[nuts.get(nut).kind] >> kind & 1) == 1 ? nut : NONE;
    }

    int about(int number, int what) {
        if (no(number)) {
            return UNKNOWN;
        }
        if (what < 0 || what > 7) {
            return OUTSIDE;
        }
        OneNut nut = nuts.get(number);
        int[] all = {nut.kind, nut.school, nut.hardness, nut.hard(), nut.count, nut.weight, nut.cracks, nut.broken ? 1 : 0};
        return all[what];
    }

    int beats(int a, int b) {
        if (no(a, b)) {
            return UNKNOWN;
        }
        OneNut winner = nuts.get(a);
        OneNut loser = nuts.get(b);
        if (winner.broken || loser.broken) {
            return STATE;
        }
        winner.count = met(winner.school, winner.count, loser.school, loser.count);
        loser.broken = true;
        return winner.count;
    }

    int fight(int a, int b, int seed) {
        if (no(a, b)) {
            return UNKNOWN;
        }
        if (seed < 0) {
            return OUTSIDE;
        }
        if (nuts.get(a).broken || nuts.get(b).broken) {
            return STATE;
        }
        Struck struck = struck(a, b, seed);
        nuts.get(a).cracks = struck.cracks[a];
        nuts.get(b).cracks = struck.cracks[b];
        if (struck.winner != NONE) {
            beats(struck.winner, a + b - struck.winner);
        }
        return struck.winner;
    }

    private Struck struck(int a, int b, int seed) {
        Struck struck = new Struck();
        for (int i = 0; i < nuts.size(); i++) {
            OneNut nut = nuts.get(i);
            struck.seat(i, nut.hard(), nut.cracks, schools.get(nut.school));
        }
        struck.follow(a, b, seed);
        return struck;
    }

    int would(int a, int b, int seed, int what) {
        if (no(a, b)) {
            return UNKNOWN;
        }
        if (seed < 0 || what < 0 || what > 3) {
            return OUTSIDE;
        }
        if (nuts.get(a).broken || nuts.get(b).broken) {
            return STATE;
        }
        Struck struck = struck(a, b, seed);
        return new int[] {struck.winner, struck.strikes, struck.tangled, (int) struck.seedThen()}[what];
    }

    int scales(int nut, int weight) {
        if (no(nut)) {
            return UNKNOWN;
        }
        if (weight < 1 || weight > 199) {
            return OUTSIDE;
        }
        double was = nuts.get(nut).weight;
        return was - weight > was / 5 ? 2 : weight - was > was / 10 ? 3 : 0;
    }

    // ---- told fights and counts

    int told(int winner, int loser) {
        if (no(winner, loser)) {
            return UNKNOWN;
        }
        if (told.size() == 10) {
            return FULL;
        }
        told.add(new int[] {winner, loser});
        return told.size();
    }

    int claim(int nut, int count) {
        if (no(nut)) {
            return UNKNOWN;
        }
        if (count < NONE || count > 999) {
            return OUTSIDE;
        }
        int before = nuts.get(nut).claim;
        nuts.get(nut).claim = count;
        return before;
    }

    /** The counts by a set, or null, if it cannot be. */
    private int[] followed(int set) {
        int[] counts = nuts.stream().mapToInt(nut -> nut.first).toArray();
        Set<Integer> lost = new HashSet<>();
        for (int i = 0; i < told.size(); i++) {
            if ((set & 1 << i) == 0) {
                continue;
            }
            int winner = told.get(i)[0];
            int loser = told.get(i)[1];
            if (lost.contains(winner) || lost.contains(loser)) {
                return null;
            }
            counts[winner] = met(nuts.get(winner).school, counts[winner], nuts.get(loser).school, counts[loser]);
            lost.add(loser);
        }
        return counts;
    }

    int by(int set, int nut) {
        if (nut != NONE && no(nut)) {
            return UNKNOWN;
        }
        if (set < 0 || set >= 1 << told.size()) {
            return OUTSIDE;
        }
        int[] counts = followed(set);
        if (nut == NONE) {
            return counts == null ? 0 : 1;
        }
        return counts == null ? STATE : counts[nut];
    }

    private int liesOf(int set, int[] counts) {
        int lies = 0;
        for (int i = 0; i < told.size(); i++) {
            lies += (set & 1 << i) == 0 ? 1 : 0;
        }
        for (int i = 0; i < counts.length; i++) {
            int claim = nuts.get(i).claim;
            lies += claim == NONE || claim == counts[i] ? 0 : 1;
        }
        return lies;
    }

    /** Each set that can be: lies, fights less, bits. */
    private List<int[]> sets() {
        List<int[]> sets = new ArrayList<>();
        for (int set = 0; set < 1 << told.size(); set++) {
            int[] counts = followed(set);
            if (counts != null) {
                sets.add(new int[] {liesOf(set, counts), -Integer.bitCount(set), set});
            }
        }
        sets.sort(Arrays::compare);
        return sets;
    }

    int lies(int what) {
        return what == 0 ? sets().get(0)[0] : what == 1 ? sets().get(0)[2] : OUTSIDE;
    }

    int most(int nut, int lies) {
        if (no(nut)) {
            return UNKNOWN;
        }
        if (lies < 0 || lies > 18) {
            return OUTSIDE;
        }
        return sets().stream().filter(set -> set[0] <= lies).mapToInt(set -> followed(set[2])[nut]).max().orElse(NONE);
    }

    int whose(int fight) {
        if (fight < 0 || fight >= told.size()) {
            return UNKNOWN;
        }
        List<int[]> sets = sets();
        return (int) sets.stream().filter(set -> set[0] == sets.get(0)[0] && (set[2] & 1 << fight) == 0).count();
    }

    long reach(int nut, int others) {
        if (no(nut)) {
            return UNKNOWN;
        }
        boolean named = others >= 0 && others < 1 << nuts.size() && (others & 1 << nut) == 0;
        if (!named || Integer.bitCount(others) > 5) {
            return OUTSIDE;
        }
        int[] counts = nuts.stream().mapToInt(one -> Math.min(62, one.first)).toArray();
        return reached(nut, others, counts);
    }

    /** All next fights of those that are left, one by one. */
    private long reached(int nut, int left, int[] counts) {
        if (left == 0) {
            return 1L << counts[nut];
        }
        long bits = 0;
        for (int loser = 0; loser < counts.length; loser++) {
            for (int winner = 0; winner < counts.length && (left & 1 << loser) != 0; winner++) {
                boolean whole = winner == nut || (left & 1 << winner) != 0;
                if (whole && winner != loser) {
                    int[] then = counts.clone();
                    int count = met(nuts.get(winner).school, counts[winner], nuts.get(loser).school, counts[loser]);
                    then[winner] = Math.min(62, count);
                    bits |= reached(nut, left & ~(1 << loser), then);
                }
            }
        }
        return bits;
    }

    // ---- what is learnt

    private static long part(BigInteger above, BigInteger below, int part) {
        BigInteger common = above.gcd(below);
        return (part == 0 ? above : below).divide(common).longValueExact();
    }

    long odds(int a, int b, int part) {
        if (no(a, b)) {
            return UNKNOWN;
        }
        if (part < 0 || part > 1) {
            return OUTSIDE;
        }
        if (nuts.size() > 6) {
            return STATE;
        }
        BigInteger[] sums = {BigInteger.ZERO, BigInteger.ZERO};
        learn(new int[nuts.size()], 0, (grades, weight) -> {
            sums[0] = sums[0].add(weight.multiply(BigInteger.valueOf(5 + grades[a] - grades[b])));
            sums[1] = sums[1].add(weight.multiply(BigInteger.TEN));
        });
        return part(sums[0], sums[1], part);
    }

    long likely(int nut, int grade, int part) {
        if (no(nut)) {
            return UNKNOWN;
        }
        if (grade < 1 || grade > 3 || part < 0 || part > 1) {
            return OUTSIDE;
        }
        if (nuts.size() > 6) {
            return STATE;
        }
        BigInteger[] sums = {BigInteger.ZERO, BigInteger.ZERO};
        learn(new int[nuts.size()], 0, (grades, weight) -> {
            sums[0] = grades[nut] == grade ? sums[0].add(weight) : sums[0];
            sums[1] = sums[1].add(weight);
        });
        return part(sums[0], sums[1], part);
    }

    private interface Learner {
        void way(int[] grades, BigInteger weight);
    }

    private void learn(int[] grades, int from, Learner learner) {
        if (from == grades.length) {
            BigInteger weight = BigInteger.ONE;
            for (int[] fight : told) {
                weight = weight.multiply(BigInteger.valueOf(5 + grades[fight[0]] - grades[fight[1]]));
            }
            learner.way(grades, weight);
            return;
        }
        for (int grade = 1; grade <= 3; grade++) {
            grades[from] = grade;
            learn(grades, from + 1, learner);
        }
    }

    // ---- a season, trees, runs

    int comer(int school, int count, int tenths) {
        if (school < 0 || school >= schools.size()) {
            return UNKNOWN;
        }
        if (count < 0 || count > 99 || tenths < 0 || tenths > 10) {
            return OUTSIDE;
        }
        if (comers.size() == 8) {
            return FULL;
        }
        comers.add(new int[] {school, count, tenths});
        return comers.size();
    }

    int gone() {
        int before = comers.size();
        comers.clear();
        return before;
    }

    /** Above and below, not in lowest terms. */
    private BigInteger[] worth(OneNut nut, int set) {
        int count = nut.count;
        int had = 0;
        BigInteger chance = BigInteger.ONE;
        for (int i = 0; i < comers.size(); i++) {
            if ((set & 1 << i) != 0) {
                int[] comer = comers.get(i);
                chance = chance.multiply(BigInteger.valueOf(comer[2] > had ? comer[2] - had : 0));
                count = met(nut.school, count, comer[0], comer[1]);
                had++;
            }
        }
        return new BigInteger[] {chance.multiply(BigInteger.valueOf(count)), BigInteger.TEN.pow(had)};
    }

    long worth(int nut, int set, int part) {
        if (no(nut)) {
            return UNKNOWN;
        }
        if (set < 0 || set >= 1 << comers.size() || part < 0 || part > 1) {
            return OUTSIDE;
        }
        BigInteger[] worth = worth(nuts.get(nut), set);
        return part(worth[0], worth[1], part);
    }

    int season(int nut) {
        return no(nut) ? UNKNOWN : best(nuts.get(nut));
    }

    private int best(OneNut nut) {
        List<Integer> sets = new ArrayList<>();
        List<BigInteger[]> worths = new ArrayList<>();
        for (int set = 0; set < 1 << comers.size(); set++) {
            sets.add(set);
            worths.add(worth(nut, set));
        }
        sets.sort((a, b) -> {
            BigInteger left = worths.get(a)[0].multiply(worths.get(b)[1]);
            BigInteger right = worths.get(b)[0].multiply(worths.get(a)[1]);
            int less = right.compareTo(left);
            less = less != 0 ? less : Integer.compare(Integer.bitCount(a), Integer.bitCount(b));
            return less != 0 ? less : Integer.compare(a, b);
        });
        return sets.get(0);
    }

    private boolean notFour(int... four) {
        return Arrays.stream(four).distinct().count() < 4 || Arrays.stream(four).anyMatch(this::no);
    }

    private int tenths(int a, int b) {
        int tenths = 5 + nuts.get(a).hard() - nuts.get(b).hard();
        return tenths < 1 ? 1 : tenths > 9 ? 9 : tenths;
    }

    int tree(int a, int b, int c, int d, int who, int part) {
        if (notFour(a, b, c, d)) {
            return UNKNOWN;
        }
        if (who < 0 || who > 3 || part < 0 || part > 1) {
            return OUTSIDE;
        }
        int[] four = {a, b, c, d};
        long sum = 0;
        for (int ways = 0; ways < 8; ways++) {
            int left = (ways & 1) == 0 ? 0 : 1;
            int right = (ways & 2) == 0 ? 2 : 3;
            int winner = (ways & 4) == 0 ? left : right;
            int loser = left + right - winner;
            long chance = (long) tenths(four[left], four[1 - left]) * tenths(four[right], four[5 - right]);
            sum += winner == who ? chance * tenths(four[winner], four[loser]) : 0;
        }
        return (int) part(BigInteger.valueOf(sum), BigInteger.valueOf(1000), part);
    }

    int last(int a, int b, int c, int d) {
        if (notFour(a, b, c, d)) {
            return UNKNOWN;
        }
        int[] chances = {0, tenths(a, c) * tenths(b, d), tenths(a, d) * tenths(b, c)};
        int best = 0;
        for (int tree = 1; tree < 3; tree++) {
            best = chances[tree] > chances[best] ? tree : best;
        }
        return best;
    }

    int run(int w, int tenths, int part) {
        if (w < 1 || w > 9 || tenths < 0 || tenths > 10 || part < 0 || part > 1) {
            return OUTSIDE;
        }
        return (int) part(BigInteger.valueOf(tenths).pow(w), BigInteger.TEN.pow(w), part);
    }

    // ---- what is told

    int image() {
        keptNuts = new ArrayList<>();
        nuts.forEach(nut -> keptNuts.add(nut.copy()));
        keptTold = new ArrayList<>(told);
        return nuts.size();
    }

    int restore() {
        if (keptNuts == null) {
            return STATE;
        }
        for (int i = 0; i < keptNuts.size(); i++) {
            OneNut nut = nuts.get(i);
            nut.count = keptNuts.get(i).count;
            nut.cracks = keptNuts.get(i).cracks;
            nut.broken = keptNuts.get(i).broken;
            nut.claim = keptNuts.get(i).claim;
        }
        told = new ArrayList<>(keptTold);
        return nuts.size();
    }

    int count(int what) {
        if (what < 0 || what > 6) {
            return OUTSIDE;
        }
        int broken = (int) nuts.stream().filter(nut -> nut.broken).count();
        int claims = (int) nuts.stream().filter(nut -> nut.claim != NONE).count();
        return new int[] {schools.size(), nuts.size(), broken, told.size(), claims, comers.size(), page.length()}[what];
    }

    long digest() {
        List<Long> numbers = new ArrayList<>();
        for (int i = 0; i < schools.size(); i++) {
            numbers.add((long) counts(i, 3, 4));
            numbers.add((long) counts(i, 7, 2));
        }
        numbers.add((long) how);
        for (int i = 0; i < nuts.size(); i++) {
            for (int what = 0; what < 8; what++) {
                numbers.add((long) about(i, what));
            }
            numbers.add((long) nuts.get(i).claim);
        }
        told.forEach(fight -> Arrays.stream(fight).forEach(one -> numbers.add((long) one)));
        numbers.add((long) lies(0));
        numbers.add((long) lies(1));
        comers.forEach(comer -> Arrays.stream(comer).forEach(one -> numbers.add((long) one)));
        nuts.forEach(nut -> numbers.add((long) best(nut)));
        page.chars().forEach(letter -> numbers.add((long) letter));
        for (int what = 0; what < 7; what++) {
            numbers.add((long) count(what));
        }
        long h = 409;
        for (long number : numbers) {
            h = h * 31 + number;
        }
        return h;
    }
}
