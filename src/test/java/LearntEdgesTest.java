/** Promises 22 and 23: each sentence that names an edge, and what each call refuses. */
final class LearntEdgesTest {
    private static final Checks CHECKS = new Checks("LearntEdgesTest");
    private static final Twins SOME = new Twins(CHECKS, Worlds::some);
    private static final Twins FULL = new Twins(CHECKS, Worlds::full);
    private static final int UNKNOWN = ThirtyNine.UNKNOWN, OUTSIDE = ThirtyNine.OUTSIDE, STATE = ThirtyNine.STATE;

    public static void main(String[] args) {
        oddsUnknown();
        oddsOfPartsOutside();
        oddsOfMoreThanSixNuts();
        oddsOfNothingTold();
        oddsWhateverKindAndBroken();
        oddsOfAllTenTold();
        likelyUnknown();
        likelyOfNumbersOutside();
        likelyOfMoreThanSixNuts();
        likelyOfOneNut();
        likelyAddsUpToOne();
        CHECKS.end();
    }

    private static ThirtyNine nuts(int many) {
        ThirtyNine x = Checks.with("x+1;t");
        for (int i = 0; i < many; i++) {
            x.nut(i % 5, 0, 9 - i, i, 20);
        }
        return x;
    }

    private static void oddsUnknown() {
        SOME.span("22 a", 0, 5, (x, v) -> x.odds(v, 3, 0), UNKNOWN);
        SOME.span("22 b", 0, 5, (x, v) -> x.odds(3, v, 1), UNKNOWN);
        SOME.refuse("22 itself", UNKNOWN, (x, v) -> x.odds(v, v, 0), 0, 2, 5, 6, -1);
        SOME.keep("22 a ahead of part", x -> x.odds(6, 0, 2), UNKNOWN);
        SOME.keep("22 b ahead of part", x -> x.odds(0, 6, -1), UNKNOWN);
        SOME.keep("22 itself ahead of part", x -> x.odds(0, 0, 2), UNKNOWN);
        FULL.refuse("22 a ahead of state", UNKNOWN, (x, v) -> x.odds(v, 0, 0), 8, -1);
        FULL.refuse("22 b ahead of state", UNKNOWN, (x, v) -> x.odds(0, v, 0), 8, -1);
        FULL.keep("22 itself ahead of state", x -> x.odds(7, 7, 0), UNKNOWN);
        CHECKS.due("22 one nut has no other", nuts(1).odds(0, 1, 0), UNKNOWN);
        CHECKS.due("22 one nut against itself", nuts(1).odds(0, 0, 0), UNKNOWN);
    }

    private static void oddsOfPartsOutside() {
        SOME.span("22 part", 0, 1, (x, v) -> x.odds(0, 1, v), OUTSIDE);
        FULL.refuse("22 part ahead of state", OUTSIDE, (x, v) -> x.odds(0, 1, v), -1, 2);
    }

    private static void oddsOfMoreThanSixNuts() {
        for (int many = 2; many <= 6; many++) {
            CHECKS.due("22 of " + many, nuts(many).odds(many - 1, 0, 1), 2);
        }
        for (int many = 7; many <= 8; many++) {
            int nuts = many;
            Twins more = new Twins(CHECKS, () -> nuts(nuts));
            more.keep("22 above, of " + many, x -> x.odds(0, 1, 0), STATE);
            more.keep("22 below, of " + many, x -> x.odds(nuts - 1, 0, 1), STATE);
        }
        FULL.keep("22 when full", x -> x.odds(0, 1, 0), STATE);
    }

    private static void oddsOfNothingTold() {
        ThirtyNine x = nuts(6);
        for (int a = 0; a < 6; a++) {
            for (int b = 0; b < 6; b++) {
                if (a != b) {
                    CHECKS.due("22 even, above", x.odds(a, b, 0), 1);
                    CHECKS.due("22 even, below", x.odds(a, b, 1), 2);
                }
            }
        }
    }

    /** One told fight makes it 79 of 150, be it a paper, be it broken, be its claim false. */
    private static void oddsWhateverKindAndBroken() {
        ThirtyNine x = nuts(5);
        x.told(4, 3);
        CHECKS.due("22 a paper that won, above", x.odds(4, 3, 0), 79);
        CHECKS.due("22 a paper that won, below", x.odds(4, 3, 1), 150);
        x.beats(3, 4);
        x.claim(4, 777);
        CHECKS.due("22 broken since, above", x.odds(4, 3, 0), 79);
        CHECKS.due("22 broken since, below", x.odds(4, 3, 1), 150);
    }

    /** By fights as they are told, though no set that can be has two of them. */
    private static void oddsOfAllTenTold() {
        ThirtyNine x = nuts(2);
        for (int i = 0; i < 10; i++) {
            x.told(1, 0);
        }
        // Ways of 5, 6, 4, 7, 3 of ten: 3, 2, 2, 1, 1, each to the tenth power, and to the eleventh.
        int[] tenths = {5, 6, 4, 7, 3};
        int[] ways = {3, 2, 2, 1, 1};
        long ten = 0;
        long eleven = 0;
        for (int i = 0; i < 5; i++) {
            long power = ways[i];
            for (int told = 0; told < 10; told++) {
                power *= tenths[i];
            }
            ten += power;
            eleven += power * tenths[i];
        }
        CHECKS.due("22 in lowest terms", x.odds(1, 0, 0) * ten * 10, x.odds(1, 0, 1) * eleven);
        CHECKS.due("22 nothing divides both", divisor(x.odds(1, 0, 0), x.odds(1, 0, 1)), 1);
        CHECKS.due("22 the other way is what is left", x.odds(0, 1, 0), x.odds(1, 0, 1) - x.odds(1, 0, 0));
    }

    private static long divisor(long a, long b) {
        return b == 0 ? a : divisor(b, a % b);
    }

    private static void likelyUnknown() {
        SOME.span("23 nut", 0, 5, (x, v) -> x.likely(v, 1, 0), UNKNOWN);
        SOME.keep("23 nut ahead of how", x -> x.likely(6, 0, 0), UNKNOWN);
        SOME.keep("23 nut ahead of part", x -> x.likely(-1, 1, 2), UNKNOWN);
        FULL.refuse("23 nut ahead of state", UNKNOWN, (x, v) -> x.likely(v, 1, 0), 8, -1);
    }

    private static void likelyOfNumbersOutside() {
        SOME.span("23 how", 1, 3, (x, v) -> x.likely(0, v, 0), OUTSIDE);
        SOME.span("23 part", 0, 1, (x, v) -> x.likely(0, 1, v), OUTSIDE);
        FULL.refuse("23 how ahead of state", OUTSIDE, (x, v) -> x.likely(0, v, 0), 0, 4);
        FULL.refuse("23 part ahead of state", OUTSIDE, (x, v) -> x.likely(0, 1, v), -1, 2);
    }

    private static void likelyOfMoreThanSixNuts() {
        CHECKS.due("23 of six", nuts(6).likely(5, 3, 1), 3);
        for (int many = 7; many <= 8; many++) {
            int nuts = many;
            Twins more = new Twins(CHECKS, () -> nuts(nuts));
            more.keep("23 above, of " + many, x -> x.likely(0, 1, 0), STATE);
            more.keep("23 below, of " + many, x -> x.likely(nuts - 1, 3, 1), STATE);
        }
        FULL.keep("23 when full", x -> x.likely(0, 2, 0), STATE);
    }

    private static void likelyOfOneNut() {
        for (int how = 1; how <= 3; how++) {
            CHECKS.due("23 one nut, above", nuts(1).likely(0, how, 0), 1);
            CHECKS.due("23 one nut, below", nuts(1).likely(0, how, 1), 3);
        }
    }

    private static void likelyAddsUpToOne() {
        for (int nut = 0; nut < 6; nut++) {
            ThirtyNine x = Worlds.some();
            long ab = x.likely(nut, 1, 0) * x.likely(nut, 2, 1) + x.likely(nut, 2, 0) * x.likely(nut, 1, 1);
            long below = x.likely(nut, 1, 1) * x.likely(nut, 2, 1);
            CHECKS.due("23 all three", ab * x.likely(nut, 3, 1) + x.likely(nut, 3, 0) * below, below * x.likely(nut, 3, 1));
            for (int how = 1; how <= 3; how++) {
                CHECKS.due("23 nothing divides both", divisor(x.likely(nut, how, 0), x.likely(nut, how, 1)), 1);
            }
        }
    }
}
