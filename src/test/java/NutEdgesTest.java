/** Promises 8 to 14, but for what happens within a fight: each sentence that names an edge, and what is refused. */
final class NutEdgesTest {
    private static final Checks CHECKS = new Checks("NutEdgesTest");
    private static final Twins SOME = new Twins(CHECKS, Worlds::some);
    private static final Twins FULL = new Twins(CHECKS, Worlds::full);
    private static final int UNKNOWN = ThirtyNine.UNKNOWN, OUTSIDE = ThirtyNine.OUTSIDE, STATE = ThirtyNine.STATE;

    public static void main(String[] args) {
        nutOfNumbersOutside();
        nutOrder();
        nutsEightAtMost();
        nutOrderWhenFull();
        asOfNumbersOutside();
        asOfEachKind();
        aboutOfNumbersOutside();
        aboutHowHard();
        aboutLeastAndGreatest();
        beatsUnknown();
        beatsBroken();
        beats999AtMost();
        beatsUntilOneIsLeft();
        fightUnknown();
        fightOfSeedsOutside();
        fightBroken();
        wouldUnknown();
        wouldOfNumbersOutside();
        wouldBroken();
        wouldWithoutItBeingHad();
        scalesOfNumbersOutside();
        scalesOfEachWeight();
        CHECKS.end();
    }

    private static void nutOfNumbersOutside() {
        SOME.span("8 kind", 0, 4, (x, v) -> x.nut(v, 0, 5, 5, 5), OUTSIDE);
        SOME.span("8 school", 0, 1, (x, v) -> x.nut(0, v, 5, 5, 5), UNKNOWN);
        SOME.span("8 hardness", 1, 9, (x, v) -> x.nut(0, 0, v, 5, 5), OUTSIDE);
        SOME.span("8 count", 0, 99, (x, v) -> x.nut(0, 0, 5, v, 5), OUTSIDE);
        SOME.span("8 weight", 1, 99, (x, v) -> x.nut(0, 0, 5, 5, v), OUTSIDE);
        SOME.span("8 hardness of a paper", 1, 9, (x, v) -> x.nut(4, 0, v, 5, 5), OUTSIDE);
    }

    private static void nutOrder() {
        SOME.keep("8 kind ahead of school", x -> x.nut(5, 2, 5, 5, 5), OUTSIDE);
        SOME.keep("8 school ahead of hardness", x -> x.nut(0, 2, 0, 5, 5), UNKNOWN);
        SOME.keep("8 school ahead of count", x -> x.nut(0, -1, 5, 100, 5), UNKNOWN);
        SOME.keep("8 school ahead of weight", x -> x.nut(0, 2, 5, 5, 0), UNKNOWN);
        SOME.keep("8 nothing as told", x -> x.nut(-1, -1, -1, -1, -1), OUTSIDE);
    }

    private static void nutsEightAtMost() {
        ThirtyNine x = Worlds.some();
        CHECKS.due("8 the seventh", x.nut(0, 0, 5, 5, 5), 6);
        CHECKS.due("8 the eighth", x.nut(0, 0, 5, 5, 5), 7);
        CHECKS.due("8 a ninth", x.nut(0, 0, 5, 5, 5), ThirtyNine.FULL);
        CHECKS.due("8 eight stay", x.count(1), 8);
        FULL.keep("8 full", y -> y.nut(0, 0, 5, 5, 5), ThirtyNine.FULL);
    }

    private static void nutOrderWhenFull() {
        FULL.keep("8 kind ahead of full", x -> x.nut(5, 0, 5, 5, 5), OUTSIDE);
        FULL.keep("8 school ahead of full", x -> x.nut(0, 3, 5, 5, 5), UNKNOWN);
        FULL.keep("8 hardness ahead of full", x -> x.nut(0, 0, 10, 5, 5), OUTSIDE);
        FULL.keep("8 count ahead of full", x -> x.nut(0, 0, 5, -1, 5), OUTSIDE);
        FULL.keep("8 weight ahead of full", x -> x.nut(0, 0, 5, 5, 100), OUTSIDE);
    }

    private static void asOfNumbersOutside() {
        SOME.span("9 nut", 0, 5, (x, v) -> x.as(v, 0), UNKNOWN);
        FULL.span("9 nut of eight", 0, 7, (x, v) -> x.as(v, 0), UNKNOWN);
        SOME.span("9 kind", 0, 4, (x, v) -> x.as(0, v), OUTSIDE);
        SOME.keep("9 nut ahead of kind", x -> x.as(6, 5), UNKNOWN);
    }

    private static void asOfEachKind() {
        int[][] kindsOf = {{0}, {0, 1}, {0, 2}, {0, 2, 3}, {0, 4}};
        for (int kind = 0; kind <= 4; kind++) {
            for (int taken = 0; taken <= 4; taken++) {
                boolean such = false;
                for (int one : kindsOf[kind]) {
                    such |= one == taken;
                }
                int nut = kind;
                int as = taken;
                SOME.keep("9 a " + kind + " as a " + taken, x -> x.as(nut, as), such ? nut : ThirtyNine.NONE);
            }
        }
    }

    private static void aboutOfNumbersOutside() {
        SOME.span("10 nut", 0, 5, (x, v) -> x.about(v, 0), UNKNOWN);
        FULL.span("10 nut of eight", 0, 7, (x, v) -> x.about(v, 0), UNKNOWN);
        SOME.span("10 what", 0, 7, (x, v) -> x.about(0, v), OUTSIDE);
        SOME.keep("10 nut ahead of what", x -> x.about(6, 8), UNKNOWN);
    }

    private static void aboutHowHard() {
        int[] hardest = {9, 10, 11, 12, 0};
        int[] softest = {1, 2, 3, 4, 0};
        for (int kind = 0; kind <= 4; kind++) {
            ThirtyNine x = Checks.with("x;t");
            x.nut(kind, 0, 9, 0, 1);
            x.nut(kind, 0, 1, 0, 1);
            CHECKS.due("10 the hardest of kind " + kind, x.about(0, 3), hardest[kind]);
            CHECKS.due("10 the softest of kind " + kind, x.about(1, 3), softest[kind]);
            CHECKS.due("10 hardness as told stays 9", x.about(0, 2), 9);
            CHECKS.due("10 hardness as told stays 1", x.about(1, 2), 1);
        }
    }

    private static void aboutLeastAndGreatest() {
        ThirtyNine x = Checks.with("x;t", "y;t", "h;t");
        x.nut(0, 0, 1, 0, 1);
        x.nut(4, 2, 9, 99, 99);
        int[] least = {0, 0, 1, 1, 0, 1, 0, 0};
        int[] greatest = {4, 2, 9, 0, 99, 99, 0, 0};
        for (int what = 0; what <= 7; what++) {
            CHECKS.due("10 of the least " + what, x.about(0, what), least[what]);
            CHECKS.due("10 of the greatest " + what, x.about(1, what), greatest[what]);
        }
    }

    private static void beatsUnknown() {
        SOME.span("11 a", 0, 5, (x, v) -> x.beats(v, 3), UNKNOWN);
        SOME.span("11 b", 0, 5, (x, v) -> x.beats(3, v), UNKNOWN);
        FULL.span("11 a of eight", 0, 7, (x, v) -> x.beats(v, 3), UNKNOWN);
        FULL.span("11 b of eight", 0, 7, (x, v) -> x.beats(3, v), UNKNOWN);
        SOME.refuse("11 itself", UNKNOWN, (x, v) -> x.beats(v, v), 0, 2, 5, 6, -1);
        SOME.keep("11 unknown ahead of a broken b", x -> x.beats(6, 2), UNKNOWN);
        SOME.keep("11 unknown ahead of a broken a", x -> x.beats(2, 6), UNKNOWN);
    }

    private static void beatsBroken() {
        SOME.keep("11 a is broken", x -> x.beats(2, 0), STATE);
        SOME.keep("11 b is broken", x -> x.beats(0, 2), STATE);
        SOME.keep("11 both are broken", x -> x.beats(2, 4), STATE);
        FULL.keep("11 a is broken, of eight", x -> x.beats(5, 7), STATE);
    }

    private static void beats999AtMost() {
        ThirtyNine x = Worlds.nuts("x+x+x+x;t", 99, 0, 0, 0, 0);
        CHECKS.due("11 396", x.beats(0, 1), 396);
        CHECKS.due("11 1584 is 999", x.beats(0, 2), 999);
        CHECKS.due("11 999 stays", x.beats(0, 3), 999);
        CHECKS.due("11 its count", x.about(0, 4), 999);
        ThirtyNine y = Worlds.nuts("x+y;t", 0, 0);
        CHECKS.due("11 0 stays", y.beats(1, 0), 0);
    }

    private static void beatsUntilOneIsLeft() {
        ThirtyNine x = Worlds.nuts("x+1;t", 0, 0, 0, 0, 0, 0, 0, 0);
        for (int loser = 0; loser < 7; loser++) {
            CHECKS.due("11 one more", x.beats(7, loser), loser + 1);
            CHECKS.due("33 so many are broken", x.count(2), loser + 1);
        }
        CHECKS.due("11 nobody is left to beat", x.beats(7, 0), STATE);
        CHECKS.due("12 nobody is left to fight", x.fight(7, 6, 0), STATE);
        CHECKS.due("13 nor would it tell", x.would(6, 7, 0, 0), STATE);
    }

    private static void fightUnknown() {
        SOME.span("12 a", 0, 5, (x, v) -> x.fight(v, 3, 1), UNKNOWN);
        SOME.span("12 b", 0, 5, (x, v) -> x.fight(3, v, 1), UNKNOWN);
        FULL.span("12 a of eight", 0, 7, (x, v) -> x.fight(v, 3, 1), UNKNOWN);
        FULL.span("12 b of eight", 0, 7, (x, v) -> x.fight(3, v, 1), UNKNOWN);
        SOME.refuse("12 itself", UNKNOWN, (x, v) -> x.fight(v, v, 1), 0, 2, 5, 6, -1);
        SOME.keep("12 unknown ahead of seed", x -> x.fight(0, 6, -1), UNKNOWN);
        SOME.keep("12 itself ahead of seed", x -> x.fight(0, 0, -1), UNKNOWN);
        SOME.keep("12 unknown ahead of broken", x -> x.fight(6, 2, 1), UNKNOWN);
    }

    private static void fightOfSeedsOutside() {
        SOME.refuse("12 seed", OUTSIDE, (x, v) -> x.fight(0, 3, v), -1, -2, Integer.MIN_VALUE);
        for (int seed : new int[] {0, 1, Integer.MAX_VALUE - 1, Integer.MAX_VALUE}) {
            int won = Worlds.some().would(0, 3, seed, 0);
            SOME.answer("12 seed " + seed, x -> x.fight(0, 3, seed), won);
            CHECKS.holds("12 somebody wins by seed " + seed, won == 0 || won == 3);
        }
        SOME.keep("12 seed ahead of broken", x -> x.fight(0, 2, -1), OUTSIDE);
    }

    private static void fightBroken() {
        SOME.keep("12 a is broken", x -> x.fight(2, 0, 1), STATE);
        SOME.keep("12 b is broken", x -> x.fight(0, 2, 1), STATE);
        SOME.keep("12 both are broken", x -> x.fight(2, 4, 1), STATE);
    }

    private static void wouldUnknown() {
        SOME.span("13 a", 0, 5, (x, v) -> x.would(v, 3, 1, 0), UNKNOWN);
        SOME.span("13 b", 0, 5, (x, v) -> x.would(3, v, 1, 0), UNKNOWN);
        FULL.span("13 a of eight", 0, 7, (x, v) -> x.would(v, 3, 1, 0), UNKNOWN);
        FULL.span("13 b of eight", 0, 7, (x, v) -> x.would(3, v, 1, 0), UNKNOWN);
        SOME.refuse("13 itself", UNKNOWN, (x, v) -> x.would(v, v, 1, 0), 0, 2, 5, 6, -1);
        SOME.keep("13 unknown ahead of seed", x -> x.would(0, 6, -1, 0), UNKNOWN);
        SOME.keep("13 unknown ahead of what", x -> x.would(0, 6, 1, 4), UNKNOWN);
        SOME.keep("13 unknown ahead of broken", x -> x.would(6, 2, 1, 0), UNKNOWN);
    }

    private static void wouldOfNumbersOutside() {
        SOME.span("13 what", 0, 3, (x, v) -> x.would(0, 3, 1, v), OUTSIDE);
        SOME.refuse("13 seed", OUTSIDE, (x, v) -> x.would(0, 3, v, 0), -1, -2, Integer.MIN_VALUE);
        CHECKS.holds("13 the least seed", Worlds.some().would(0, 3, 0, 1) >= 1);
        CHECKS.holds("13 the greatest seed", Worlds.some().would(0, 3, Integer.MAX_VALUE, 1) >= 1);
        SOME.keep("13 both seed and what", x -> x.would(0, 3, -1, 4), OUTSIDE);
        SOME.keep("13 what ahead of broken", x -> x.would(0, 2, 1, 4), OUTSIDE);
        SOME.keep("13 seed ahead of broken", x -> x.would(0, 2, -1, 0), OUTSIDE);
    }

    private static void wouldBroken() {
        SOME.keep("13 a is broken", x -> x.would(2, 0, 1, 0), STATE);
        SOME.keep("13 b is broken", x -> x.would(0, 2, 1, 3), STATE);
        SOME.keep("13 both are broken", x -> x.would(2, 4, 1, 1), STATE);
    }

    private static void wouldWithoutItBeingHad() {
        for (int what = 0; what <= 3; what++) {
            int told = what;
            SOME.keep("13 tells " + what, x -> x.would(0, 3, 24, told), Worlds.some().would(0, 3, 24, what));
        }
    }

    private static void scalesOfNumbersOutside() {
        SOME.span("14 nut", 0, 5, (x, v) -> x.scales(v, 20), UNKNOWN);
        FULL.span("14 nut of eight", 0, 7, (x, v) -> x.scales(v, 20), UNKNOWN);
        SOME.span("14 weight", 1, 199, (x, v) -> x.scales(0, v), OUTSIDE);
        SOME.keep("14 nut ahead of weight", x -> x.scales(6, 0), UNKNOWN);
        SOME.keep("14 a broken one is weighed, too", x -> x.scales(2, 40), 3);
    }

    /** What was lost five times is held against the weight, what came ten times: no part is rounded. */
    private static void scalesOfEachWeight() {
        for (int was = 1; was <= 99; was++) {
            ThirtyNine x = Checks.with("x;t");
            x.nut(was % 5, 0, 5, 0, was);
            for (int now = 1; now <= 199; now++) {
                int lost = was - now;
                int want = 5 * lost > was ? 2 : -10 * lost > was ? 3 : 0;
                CHECKS.due("14 of " + was + ", weighed again " + now, x.scales(0, now), want);
            }
        }
    }
}
