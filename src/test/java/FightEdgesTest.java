/** Promises 12 and 13, what happens within a fight: each sentence of it that names an edge. */
final class FightEdgesTest {
    private static final Checks CHECKS = new Checks("FightEdgesTest");

    public static void main(String[] args) {
        seedGoesRoundAtTwoToThe31();
        seedByHand();
        tangledBelowTwo();
        strikesAgainIfTangled();
        breaksBelowTheChance();
        oneAtLeast();
        ninetyFiveAtMost();
        fourTimesTheCracks();
        fiftiethStrike();
        cracksStay();
        whoWinsBeatsTheOther();
        CHECKS.end();
    }

    private static long next(long seed) {
        return (1103515245L * seed + 12345) % (1L << 31);
    }

    /** The least seed by which the first draws are so: pairs of what is drawn of, and what is drawn. */
    private static int seedDrawing(int... draws) {
        for (int first = 0; first < 10_000_000; first++) {
            long seed = first;
            boolean all = true;
            for (int i = 0; i < draws.length && all; i += 2) {
                seed = next(seed);
                all = seed / 65536 % draws[i] == draws[i + 1];
            }
            if (all) {
                return first;
            }
        }
        CHECKS.holds("a seed draws so", false);
        return 0;
    }

    /** Two whole nuts, so hard. */
    private static ThirtyNine two(String schools, int hard, int otherHard) {
        ThirtyNine x = Checks.with(schools);
        add(x, hard);
        add(x, otherHard);
        return x;
    }

    /** Hard 0 is a paper, up to 9 a nut, then old, baked, pickled. */
    private static void add(ThirtyNine x, int hard) {
        int kind = hard == 0 ? 4 : Math.max(0, hard - 9);
        int nut = x.nut(kind, 0, hard == 0 ? 5 : hard - kind, 1, 20);
        CHECKS.due("10 so hard", x.about(nut, 3), hard);
    }

    private static void seedGoesRoundAtTwoToThe31() {
        for (int seed : new int[] {0, 1, 2, 3, 65535, 65536, 1 << 30, Integer.MAX_VALUE - 1, Integer.MAX_VALUE}) {
            ThirtyNine x = two("x;o", 5, 5);
            int draws = 2 * x.would(0, 1, seed, 1) - x.would(0, 1, seed, 2);
            long then = seed;
            for (int i = 0; i < draws; i++) {
                then = next(then);
            }
            CHECKS.due("13 the seed behind " + seed, x.would(0, 1, seed, 3), then);
        }
    }

    private static void seedByHand() {
        CHECKS.due("13 1 times and 12345", next(1), 1103527590L);
        CHECKS.due("13 2 times and 12345 goes round once", next(2), 2207042835L - 2147483648L);
        // The greatest is one less than none at all: 12345 less 1103515245, and round once.
        CHECKS.due("13 the greatest", next(Integer.MAX_VALUE), 12345 - 1103515245L + 2147483648L);
    }

    private static void tangledBelowTwo() {
        for (int drawn = 0; drawn <= 9; drawn++) {
            int seed = drawn < 2 ? seedDrawing(10, drawn, 10, 2, 100, 0) : seedDrawing(10, drawn, 100, 0);
            ThirtyNine x = two("x;t", 5, 5);
            CHECKS.due("12 tangled, if " + drawn + " is drawn", x.would(0, 1, seed, 2), drawn < 2 ? 1 : 0);
            CHECKS.due("12 strikes, if " + drawn + " is drawn", x.would(0, 1, seed, 1), drawn < 2 ? 2 : 1);
        }
    }

    /** Tangled once, then the next strike breaks the other one: who wins is who struck then. */
    private static void strikesAgainIfTangled() {
        int seed = seedDrawing(10, 1, 10, 2, 100, 0);
        int[][] winners = {{0, 1}, {1, 0}, {0, 0}};
        String[] schools = {"x;t", "x;o", "x;n"};
        for (int school = 0; school < 3; school++) {
            ThirtyNine x = two(schools[school], 5, 5);
            CHECKS.due("13 " + schools[school] + ", 0 strikes first", x.would(0, 1, seed, 0), winners[school][0]);
            CHECKS.due("13 " + schools[school] + ", 1 strikes first", x.would(1, 0, seed, 0), winners[school][1]);
        }
        ThirtyNine unlike = Checks.with("x;t", "x;o");
        unlike.nut(0, 0, 5, 1, 20);
        unlike.nut(0, 1, 5, 1, 20);
        CHECKS.due("13 by the school of who struck, 0", unlike.would(0, 1, seed, 0), 0);
        CHECKS.due("13 by the school of who struck, 1", unlike.would(1, 0, seed, 0), 0);
    }

    /** The first strike of an object's nut 0 at nut 1 breaks it below this chance, and not at it. */
    private static void chanceIs(ThirtyNine x, int chance) {
        String call = "12 hard " + x.about(0, 3) + " at " + x.about(1, 3) + " of cracks " + x.about(1, 6);
        int below = seedDrawing(10, 2, 100, chance - 1);
        CHECKS.due(call + ", strikes below " + chance, x.would(0, 1, below, 1), 1);
        CHECKS.due(call + ", who wins below " + chance, x.would(0, 1, below, 0), 0);
        int at = seedDrawing(10, 2, 100, chance);
        CHECKS.holds(call + ", not at " + chance, x.would(0, 1, at, 1) > 1);
    }

    private static void breaksBelowTheChance() {
        chanceIs(two("x;o", 5, 5), 15);
        chanceIs(two("x;o", 6, 5), 20);
        chanceIs(two("x;o", 5, 6), 10);
        chanceIs(two("x;o", 5, 7), 5);
        chanceIs(two("x;o", 9, 0), 60);
        chanceIs(two("x;o", 12, 0), 75);
        chanceIs(two("x;o", 0, 0), 15);
        chanceIs(two("x;o", 12, 12), 15);
    }

    private static void oneAtLeast() {
        chanceIs(two("x;o", 5, 8), 1);
        chanceIs(two("x;o", 5, 9), 1);
        chanceIs(two("x;o", 0, 12), 1);
        chanceIs(cracked(5, 9, 1), 1);
        chanceIs(cracked(5, 9, 2), 3);
        chanceIs(cracked(5, 8, 1), 4);
    }

    private static void ninetyFiveAtMost() {
        chanceIs(cracked(12, 0, 4), 91);
        chanceIs(cracked(12, 0, 5), 95);
        chanceIs(cracked(12, 0, 6), 95);
        chanceIs(cracked(9, 0, 8), 92);
        chanceIs(cracked(9, 0, 9), 95);
    }

    private static void fourTimesTheCracks() {
        for (int cracks = 0; cracks <= 8; cracks++) {
            chanceIs(cracked(5, 5, cracks), 15 + 4 * cracks);
        }
    }

    /** So hard nuts 0 and 1, and nut 1 has come with so many cracks from a fight that it won. */
    private static ThirtyNine cracked(int hard, int otherHard, int cracks) {
        for (int seed = 0; seed < 2_000_000; seed++) {
            ThirtyNine x = two("x;o", hard, otherHard);
            add(x, otherHard);
            if (x.fight(1, 2, seed) == 1 && x.about(1, 6) == cracks) {
                return x;
            }
        }
        CHECKS.holds("a fight leaves " + cracks + " cracks", false);
        return two("x;o", hard, otherHard);
    }

    /**
     * Of all seeds, for all that two may be hard and all letters for tangles, this one alone comes to
     * a fiftieth strike, and it breaks the struck one: that nobody has won never comes to be.
     */
    private static void fiftiethStrike() {
        int seed = 64869361;
        for (int hard = 0; hard <= 8; hard++) {
            ThirtyNine x = two("x+1;n", hard, hard + 4);
            CHECKS.due("13 fifty strikes", x.would(0, 1, seed, 1), 50);
            CHECKS.due("13 of them tangled", x.would(0, 1, seed, 2), 20);
            CHECKS.due("13 who wins by the fiftieth", x.would(0, 1, seed, 0), 1);
            CHECKS.due("12 who won by the fiftieth", x.fight(0, 1, seed), 1);
            CHECKS.due("12 its count", x.about(1, 4), 2);
            CHECKS.due("12 the other one is broken", x.about(0, 7), 1);
            CHECKS.due("12 all strikes but the last left a crack", x.about(0, 6) + x.about(1, 6), 29);
        }
    }

    private static void cracksStay() {
        ThirtyNine x = cracked(5, 5, 3);
        int ofBroken = x.about(2, 6);
        CHECKS.due("12 on the broken one, too", x.about(2, 7), 1);
        x.beats(1, 0);
        CHECKS.due("12 who beats keeps its cracks", x.about(1, 6), 3);
        CHECKS.due("12 who is beaten has no more", x.about(0, 6), 0);
        CHECKS.due("12 the broken one keeps its own", x.about(2, 6), ofBroken);
        ThirtyNine y = cracked(5, 5, 3);
        y.fight(0, 1, seedDrawing(10, 2, 100, 99, 10, 2, 100, 0));
        CHECKS.due("12 one more on top of three", y.about(1, 6), 4);
        CHECKS.due("12 the struck one is broken without a crack", y.about(0, 6), 0);
    }

    private static void whoWinsBeatsTheOther() {
        int first = seedDrawing(10, 2, 100, 0);
        int second = seedDrawing(10, 2, 100, 99, 10, 2, 100, 0);
        for (int seed : new int[] {first, second}) {
            ThirtyNine x = Checks.with("x+y;t", "x+99;o");
            x.nut(0, 0, 5, 40, 20);
            x.nut(0, 1, 5, 30, 20);
            x.meeting(3);
            int won = seed == first ? 0 : 1;
            CHECKS.due("12 who won", x.fight(0, 1, seed), won);
            CHECKS.due("12 its count, by the less", x.about(won, 4), 70);
            CHECKS.due("12 the other one's stays", x.about(1 - won, 4), won == 0 ? 30 : 40);
            CHECKS.due("12 who is broken", x.about(1 - won, 7), 1);
            CHECKS.due("12 who is whole", x.about(won, 7), 0);
        }
    }
}
