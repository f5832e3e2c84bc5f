/** Promises 24 to 30: each sentence that names an edge, and what each call refuses. */
final class SeasonEdgesTest {
    private static final Checks CHECKS = new Checks("SeasonEdgesTest");
    private static final Twins EMPTY = new Twins(CHECKS, Worlds::empty);
    private static final Twins SOME = new Twins(CHECKS, Worlds::some);
    private static final Twins FULL = new Twins(CHECKS, Worlds::full);
    private static final int UNKNOWN = ThirtyNine.UNKNOWN, OUTSIDE = ThirtyNine.OUTSIDE;

    public static void main(String[] args) {
        comerOfNumbersOutside();
        comersEightAtMost();
        goneOfNoneAndOfAll();
        worthOfNumbersOutside();
        worthOfSetsOutside();
        worthOfNoComers();
        worthOneTenthLessForAllBehind();
        worthNoneAtLeast();
        worth999AtMost();
        worthOfItsCountNow();
        seasonUnknown();
        seasonOfNoComersAndOfEight();
        seasonOfLikeWorth();
        treeUnknown();
        treeOfNumbersOutside();
        treeOneAtLeastNineAtMost();
        treeAddsUpToOne();
        lastUnknown();
        lastOfLikeTrees();
        runOfNumbersOutside();
        runOfLeastAndGreatest();
        CHECKS.end();
    }

    private static void comerOfNumbersOutside() {
        SOME.span("24 school", 0, 1, (x, v) -> x.comer(v, 5, 5), UNKNOWN);
        SOME.span("24 count", 0, 99, (x, v) -> x.comer(0, v, 5), OUTSIDE);
        SOME.span("24 tenths", 0, 10, (x, v) -> x.comer(0, 5, v), OUTSIDE);
        SOME.keep("24 school ahead of count", x -> x.comer(2, 100, 5), UNKNOWN);
        SOME.keep("24 school ahead of tenths", x -> x.comer(-1, 5, 11), UNKNOWN);
        SOME.keep("24 both count and tenths", x -> x.comer(0, -1, -1), OUTSIDE);
    }

    private static void comersEightAtMost() {
        ThirtyNine x = Worlds.some();
        for (int many = 4; many <= 8; many++) {
            CHECKS.due("24 so many", x.comer(0, 5, 5), many);
        }
        CHECKS.due("24 a ninth", x.comer(0, 5, 5), ThirtyNine.FULL);
        CHECKS.due("24 eight stay", x.count(5), 8);
        FULL.keep("24 full", y -> y.comer(0, 5, 5), ThirtyNine.FULL);
        FULL.keep("24 school ahead of full", y -> y.comer(3, 5, 5), UNKNOWN);
        FULL.keep("24 count ahead of full", y -> y.comer(0, 100, 5), OUTSIDE);
        FULL.keep("24 tenths ahead of full", y -> y.comer(0, 5, 11), OUTSIDE);
    }

    private static void goneOfNoneAndOfAll() {
        EMPTY.keep("25 none", x -> x.gone(), 0);
        ThirtyNine x = Worlds.full();
        CHECKS.due("25 eight", x.gone(), 8);
        CHECKS.due("25 none then", x.gone(), 0);
        CHECKS.due("26 no set but the empty one", x.worth(0, 1, 0), OUTSIDE);
        CHECKS.due("27 no fight to take", x.season(1), 0);
        CHECKS.due("25 nothing else goes", x.count(3), 10);
        for (int many = 1; many <= 8; many++) {
            CHECKS.due("25 there is room again", x.comer(0, 5, 5), many);
        }
        CHECKS.due("25 for eight", x.comer(0, 5, 5), ThirtyNine.FULL);
    }

    private static void worthOfNumbersOutside() {
        SOME.span("26 nut", 0, 5, (x, v) -> x.worth(v, 7, 0), UNKNOWN);
        FULL.span("26 nut of eight", 0, 7, (x, v) -> x.worth(v, 255, 1), UNKNOWN);
        SOME.span("26 part", 0, 1, (x, v) -> x.worth(0, 7, v), OUTSIDE);
        SOME.keep("26 nut ahead of set", x -> x.worth(6, 8, 0), UNKNOWN);
        SOME.keep("26 nut ahead of part", x -> x.worth(-1, 7, 2), UNKNOWN);
        SOME.keep("26 both set and part", x -> x.worth(0, 8, 2), OUTSIDE);
        SOME.answer("26 of a broken one, too", x -> x.worth(2, 0, 0), 5);
    }

    private static void worthOfSetsOutside() {
        for (int comers = 0; comers <= 8; comers++) {
            int many = comers;
            Twins some = new Twins(CHECKS, () -> {
                ThirtyNine x = Worlds.nuts("x+1;t", 1);
                for (int i = 0; i < many; i++) {
                    x.comer(0, i, 9);
                }
                return x;
            });
            some.span("26 set of " + comers, 0, (1 << comers) - 1, (x, v) -> x.worth(0, v, 0), OUTSIDE);
            some.refuse("26 set, below, of " + comers, OUTSIDE, (x, v) -> x.worth(0, v, 1), 1 << comers, 1 << 30, -1);
        }
    }

    private static void worthIs(ThirtyNine x, int set, long above, long below) {
        CHECKS.due("26 above, of the set " + set, x.worth(0, set, 0), above);
        CHECKS.due("26 below, of the set " + set, x.worth(0, set, 1), below);
    }

    private static ThirtyNine comers(String school, int count, int... tenths) {
        ThirtyNine x = Worlds.nuts(school, count);
        for (int each : tenths) {
            x.comer(0, 1, each);
        }
        return x;
    }

    private static void worthOfNoComers() {
        worthIs(comers("x+1;t", 0), 0, 0, 1);
        worthIs(comers("x+1;t", 99), 0, 99, 1);
        worthIs(comers("x+1;t", 99, 5, 5), 0, 99, 1);
    }

    private static void worthOneTenthLessForAllBehind() {
        ThirtyNine x = comers("x;t", 1, 10, 10, 10, 10, 10, 10, 10, 10);
        worthIs(x, 1, 1, 1);
        worthIs(x, 128, 1, 1);
        worthIs(x, 3, 9, 10);
        // One that is shunned tires nobody.
        worthIs(x, 129, 9, 10);
        worthIs(x, 0b10010010, 18, 25);
        // 10, 9, 8, 7, 6, 5, 4, 3 of ten: 1814400 of a hundred million.
        worthIs(x, 255, 567, 31250);
    }

    private static long divisor(long a, long b) {
        return b == 0 ? a : divisor(b, a % b);
    }

    private static void worthNoneAtLeast() {
        worthIs(comers("x+1;t", 5, 0), 1, 0, 1);
        ThirtyNine x = comers("x;t", 10, 1, 1, 1, 2, 3);
        worthIs(x, 0b00001, 1, 1);
        worthIs(x, 0b00011, 0, 1);
        worthIs(x, 0b00111, 0, 1);
        worthIs(x, 0b01001, 1, 10);
        worthIs(x, 0b01100, 1, 10);
        worthIs(x, 0b11000, 2, 5);
        worthIs(x, 0b11001, 1, 100);
        // One less and two less than none: their product is not more than none.
        worthIs(comers("x;t", 10, 1, 0, 0), 0b111, 0, 1);
        worthIs(comers("x;t", 10, 1, 1, 0, 0), 0b1111, 0, 1);
    }

    private static void worth999AtMost() {
        ThirtyNine x = comers("x+x+x+x;t", 99, 10, 10, 10);
        worthIs(x, 1, 396, 1);
        // 999 in 9 of ten; in 72 of a hundred.
        worthIs(x, 3, 8991, 10);
        worthIs(x, 7, 17982, 25);
    }

    private static void worthOfItsCountNow() {
        ThirtyNine x = Worlds.nuts("x+x+x+x;t", 99, 0, 0);
        x.beats(0, 1);
        worthIs(x, 0, 396, 1);
        x.beats(0, 2);
        worthIs(x, 0, 999, 1);
        x.comer(0, 99, 10);
        worthIs(x, 1, 999, 1);
        CHECKS.due("27 no more is to be had", x.season(0), 0);
    }

    private static void seasonUnknown() {
        SOME.span("27 nut", 0, 5, (x, v) -> x.season(v), UNKNOWN);
        FULL.span("27 nut of eight", 0, 7, (x, v) -> x.season(v), UNKNOWN);
    }

    private static void seasonOfNoComersAndOfEight() {
        CHECKS.due("27 no comers", comers("x+1;t", 5).season(0), 0);
        CHECKS.due("27 the eighth alone", comers("x+y;t", 1, 0, 0, 0, 0, 0, 0, 0, 10).season(0), 128);
        CHECKS.due("27 the first alone", comers("x+y;t", 1, 10, 0, 0, 0, 0, 0, 0, 0).season(0), 1);
        CHECKS.due("27 the first and the eighth", comers("x+x;t", 1, 10, 0, 0, 0, 0, 0, 0, 10).season(0), 129);
        CHECKS.due("27 none can be beaten", comers("x+x;t", 1, 0, 0, 0, 0, 0, 0, 0, 0).season(0), 0);
        CHECKS.due("27 nothing is worth anything", comers("x+x;t", 0, 10, 10, 10).season(0), 0);
    }

    private static void seasonOfLikeWorth() {
        // Doubled in 5 of ten is as much as it was.
        CHECKS.due("27 fewest: none", comers("x+x;t", 4, 5).season(0), 0);
        CHECKS.due("27 more by a tenth", comers("x+x;t", 4, 6).season(0), 1);
        // Two in 7 of ten: 16 in 42 of a hundred; three of them: 32 in 21 of a hundred, as much.
        CHECKS.due("27 fewest, then least bits", comers("x+x;t", 4, 6, 7, 7, 7).season(0), 6);
        CHECKS.due("27 least bits of like single ones", comers("9;t", 4, 8, 10, 10).season(0), 2);
        ThirtyNine x = Worlds.nuts("x+y;t", 0);
        x.comer(0, 5, 10);
        x.comer(0, 6, 10);
        x.comer(0, 99, 1);
        // The first two: 11 in 9 of ten; the third alone: 99 in one of ten.
        CHECKS.due("27 fewest, though of greater bits", x.season(0), 4);
        x.comer(0, 0, 10);
        CHECKS.due("27 one that adds nothing is shunned", x.season(0), 4);
    }

    private static void treeUnknown() {
        SOME.span("28 a", 0, 5, (x, v) -> x.tree(v, 1, 2, 3, 0, 0), UNKNOWN);
        SOME.span("28 b", 0, 5, (x, v) -> x.tree(1, v, 2, 3, 0, 0), UNKNOWN);
        SOME.span("28 c", 0, 5, (x, v) -> x.tree(1, 2, v, 3, 0, 0), UNKNOWN);
        SOME.span("28 d", 0, 5, (x, v) -> x.tree(1, 2, 3, v, 0, 0), UNKNOWN);
        FULL.span("28 d of eight", 0, 7, (x, v) -> x.tree(1, 2, 3, v, 3, 1), UNKNOWN);
        SOME.refuse("28 a is another", UNKNOWN, (x, v) -> x.tree(v, 1, 2, 3, 0, 0), 1, 2, 3);
        SOME.refuse("28 d is another", UNKNOWN, (x, v) -> x.tree(1, 2, 3, v, 0, 0), 1, 2, 3);
        SOME.keep("28 b is c", x -> x.tree(0, 1, 1, 2, 0, 0), UNKNOWN);
        SOME.keep("28 unknown and the same", x -> x.tree(6, 6, 6, 6, 0, 0), UNKNOWN);
        SOME.keep("28 unknown ahead of who", x -> x.tree(0, 1, 2, 6, 4, 0), UNKNOWN);
        SOME.keep("28 the same ahead of part", x -> x.tree(0, 1, 2, 2, 0, 2), UNKNOWN);
    }

    private static void treeOfNumbersOutside() {
        SOME.span("28 who", 0, 3, (x, v) -> x.tree(0, 1, 2, 3, v, 0), OUTSIDE);
        SOME.span("28 part", 0, 1, (x, v) -> x.tree(0, 1, 2, 3, 0, v), OUTSIDE);
        SOME.keep("28 both who and part", x -> x.tree(0, 1, 2, 3, 4, 2), OUTSIDE);
    }

    /** One so hard among three others so hard: it must win twice in so many tenths. */
    private static void tenthsAre(int hard, int others, int tenths) {
        ThirtyNine x = Checks.with("x;t");
        for (int i = 0; i < 4; i++) {
            int each = i == 0 ? hard : others;
            int kind = each == 0 ? 4 : Math.max(0, each - 9);
            x.nut(kind, 0, each == 0 ? 7 : each - kind, 0, 20);
            CHECKS.due("10 so hard", x.about(i, 3), each);
        }
        long common = divisor(tenths * tenths, 100);
        CHECKS.due("28 " + hard + " among " + others + ", above", x.tree(0, 1, 2, 3, 0, 0), tenths * tenths / common);
        CHECKS.due("28 " + hard + " among " + others + ", below", x.tree(0, 1, 2, 3, 0, 1), 100 / common);
        CHECKS.due("28 as the last, above", x.tree(1, 2, 3, 0, 3, 0), tenths * tenths / common);
    }

    private static void treeOneAtLeastNineAtMost() {
        tenthsAre(5, 5, 5);
        tenthsAre(6, 5, 6);
        tenthsAre(8, 5, 8);
        tenthsAre(9, 5, 9);
        tenthsAre(10, 5, 9);
        tenthsAre(12, 5, 9);
        tenthsAre(12, 0, 9);
        tenthsAre(5, 6, 4);
        tenthsAre(5, 8, 2);
        tenthsAre(5, 9, 1);
        tenthsAre(5, 10, 1);
        tenthsAre(5, 12, 1);
        tenthsAre(0, 12, 1);
        tenthsAre(0, 0, 5);
        tenthsAre(12, 12, 5);
    }

    private static void treeAddsUpToOne() {
        ThirtyNine x = Worlds.full();
        int[][] fours = {{0, 1, 2, 3}, {4, 5, 6, 7}, {7, 0, 4, 3}, {3, 4, 0, 7}};
        for (int[] four : fours) {
            long thousandths = 0;
            for (int who = 0; who < 4; who++) {
                long above = x.tree(four[0], four[1], four[2], four[3], who, 0);
                long below = x.tree(four[0], four[1], four[2], four[3], who, 1);
                CHECKS.due("28 nothing divides both", divisor(above, below), 1);
                CHECKS.due("28 below divides a thousand", 1000 % below, 0);
                thousandths += above * (1000 / below);
            }
            CHECKS.due("28 one of the four wins", thousandths, 1000);
        }
    }

    private static void lastUnknown() {
        SOME.span("29 a", 0, 5, (x, v) -> x.last(v, 1, 2, 3), UNKNOWN);
        SOME.span("29 b", 0, 5, (x, v) -> x.last(1, v, 2, 3), UNKNOWN);
        SOME.span("29 c", 0, 5, (x, v) -> x.last(1, 2, v, 3), UNKNOWN);
        SOME.span("29 d", 0, 5, (x, v) -> x.last(1, 2, 3, v), UNKNOWN);
        FULL.span("29 a of eight", 0, 7, (x, v) -> x.last(v, 1, 2, 3), UNKNOWN);
        SOME.refuse("29 a is another", UNKNOWN, (x, v) -> x.last(v, 1, 2, 3), 1, 2, 3);
        SOME.refuse("29 d is another", UNKNOWN, (x, v) -> x.last(1, 2, 3, v), 1, 2, 3);
        SOME.keep("29 b is c", x -> x.last(0, 1, 1, 2), UNKNOWN);
        SOME.keep("29 unknown and the same", x -> x.last(6, 6, 6, 6), UNKNOWN);
    }

    /** A tree in which the first two meet at once has none of the chance: it is never the one. */
    private static void lastOfLikeTrees() {
        ThirtyNine x = Checks.with("x;t");
        x.nut(3, 0, 9, 0, 20);
        x.nut(3, 0, 9, 0, 20);
        x.nut(4, 0, 1, 0, 20);
        x.nut(4, 0, 1, 0, 20);
        CHECKS.due("29 both others are paper", x.last(0, 1, 2, 3), 1);
        CHECKS.due("29 the first two are paper", x.last(2, 3, 0, 1), 1);
        // With its like: 5 times 5 of ten; with the other one: 9 times 1.
        CHECKS.due("29 one of each", x.last(0, 2, 1, 3), 1);
        CHECKS.due("29 one of each, turned", x.last(0, 2, 3, 1), 2);
        // Beyond nine tenths it is as likely: hard 12 against 5 and 0 are both nine of ten.
        x.nut(0, 0, 5, 0, 20);
        CHECKS.due("29 like ones by what is cut", x.last(0, 1, 4, 2), 1);
        CHECKS.due("29 like ones by what is cut, turned", x.last(0, 1, 2, 4), 1);
    }

    private static void runOfNumbersOutside() {
        EMPTY.span("30 w", 1, 9, (x, v) -> x.run(v, 5, 0), OUTSIDE);
        EMPTY.span("30 tenths", 0, 10, (x, v) -> x.run(1, v, 0), OUTSIDE);
        EMPTY.span("30 part", 0, 1, (x, v) -> x.run(1, 5, v), OUTSIDE);
        SOME.keep("30 w and tenths", x -> x.run(0, 11, 0), OUTSIDE);
        SOME.keep("30 tenths and part", x -> x.run(1, -1, 2), OUTSIDE);
    }

    private static void runOfLeastAndGreatest() {
        for (int w = 1; w <= 9; w++) {
            for (int tenths = 0; tenths <= 10; tenths++) {
                long above = 1;
                long below = 1;
                for (int i = 0; i < w; i++) {
                    above *= tenths;
                    below *= 10;
                }
                long common = divisor(above, below);
                int many = w;
                int each = tenths;
                EMPTY.answer("30 run of " + w + " in " + tenths + ", above", x -> x.run(many, each, 0), above / common);
                EMPTY.answer("30 run of " + w + " in " + tenths + ", below", x -> x.run(many, each, 1), below / common);
            }
        }
        EMPTY.keep("30 the greatest below", x -> x.run(9, 9, 1), 1_000_000_000);
        EMPTY.keep("30 none at all, above", x -> x.run(9, 0, 0), 0);
        EMPTY.keep("30 none at all, below", x -> x.run(9, 0, 1), 1);
        EMPTY.keep("30 for sure, above", x -> x.run(9, 10, 0), 1);
        EMPTY.keep("30 for sure, below", x -> x.run(9, 10, 1), 1);
    }
}
