/** Promises 8 to 14: nuts, kinds, beating, fighting, weighing. */
final class NutsTest {
    private static final Checks CHECKS = new Checks("NutsTest");

    public static void main(String[] args) {
        nut();
        as();
        about();
        beats();
        fight();
        fightOfTangles();
        fightsOfManySeeds();
        leastAndGreatestChance();
        fiftyStrikes();
        would();
        scales();
        CHECKS.end();
    }

    private static void nut() {
        ThirtyNine x = Checks.with("x+1;t");
        CHECKS.due("8 kind below", x.nut(-1, 9, 5, 5, 5), ThirtyNine.OUTSIDE);
        CHECKS.due("8 kind above", x.nut(5, 9, 5, 5, 5), ThirtyNine.OUTSIDE);
        CHECKS.due("8 school", x.nut(0, 1, 0, 5, 5), ThirtyNine.UNKNOWN);
        CHECKS.due("8 school below", x.nut(4, -1, 0, 5, 5), ThirtyNine.UNKNOWN);
        CHECKS.due("8 hardness below", x.nut(0, 0, 0, 5, 5), ThirtyNine.OUTSIDE);
        CHECKS.due("8 hardness above", x.nut(0, 0, 10, 5, 5), ThirtyNine.OUTSIDE);
        CHECKS.due("8 count below", x.nut(0, 0, 5, -1, 5), ThirtyNine.OUTSIDE);
        CHECKS.due("8 count above", x.nut(0, 0, 5, 100, 5), ThirtyNine.OUTSIDE);
        CHECKS.due("8 weight below", x.nut(0, 0, 5, 5, 0), ThirtyNine.OUTSIDE);
        CHECKS.due("8 weight above", x.nut(0, 0, 5, 5, 100), ThirtyNine.OUTSIDE);
        CHECKS.due("8 none came", x.count(1), 0);
        CHECKS.due("8 least", x.nut(0, 0, 1, 0, 1), 0);
        CHECKS.due("8 greatest", x.nut(4, 0, 9, 99, 99), 1);
        for (int i = 2; i < 8; i++) {
            CHECKS.due("8 number " + i, x.nut(i % 5, 0, 5, i, 5), i);
        }
        CHECKS.due("8 full", x.nut(0, 0, 5, 5, 5), ThirtyNine.FULL);
        CHECKS.due("8 outside ahead of full", x.nut(0, 0, 5, 5, 100), ThirtyNine.OUTSIDE);
        CHECKS.due("8 unknown ahead of full", x.nut(0, 1, 5, 5, 5), ThirtyNine.UNKNOWN);
        CHECKS.due("8 eight", x.count(1), 8);
        CHECKS.due("10 the eighth", x.about(7, 4), 7);
        CHECKS.due("10 unknown behind the eighth", x.about(8, 0), ThirtyNine.UNKNOWN);
        CHECKS.due("10 unknown far behind", x.about(Integer.MAX_VALUE, 0), ThirtyNine.UNKNOWN);
    }

    private static ThirtyNine ofAllKinds() {
        ThirtyNine x = Checks.with("x+1;t");
        for (int kind = 0; kind < 5; kind++) {
            x.nut(kind, 0, 4, kind, 20);
        }
        return x;
    }

    private static void as() {
        ThirtyNine x = ofAllKinds();
        for (int nut = 0; nut < 5; nut++) {
            for (int kind = 0; kind < 5; kind++) {
                boolean such = kind == 0 || kind == nut || nut == 3 && kind == 2;
                CHECKS.due("9 as(" + nut + ", " + kind + ")", x.as(nut, kind), such ? nut : ThirtyNine.NONE);
            }
        }
        CHECKS.due("9 unknown", x.as(5, 9), ThirtyNine.UNKNOWN);
        CHECKS.due("9 unknown below", x.as(-1, 0), ThirtyNine.UNKNOWN);
        CHECKS.due("9 kind below", x.as(0, -1), ThirtyNine.OUTSIDE);
        CHECKS.due("9 kind above", x.as(0, 5), ThirtyNine.OUTSIDE);
    }

    private static void about() {
        ThirtyNine x = ofAllKinds();
        int[] hard = {4, 5, 6, 7, 0};
        for (int nut = 0; nut < 5; nut++) {
            int[] want = {nut, 0, 4, hard[nut], nut, 20, 0, 0};
            for (int what = 0; what < 8; what++) {
                CHECKS.due("10 about(" + nut + ", " + what + ")", x.about(nut, what), want[what]);
            }
        }
        ThirtyNine y = Checks.with("x;t", "y;t");
        y.nut(2, 1, 9, 12, 34);
        CHECKS.due("10 school", y.about(0, 1), 1);
        CHECKS.due("10 hardness as told", y.about(0, 2), 9);
        CHECKS.due("10 hard above nine", y.about(0, 3), 11);
        CHECKS.due("10 unknown", x.about(5, -1), ThirtyNine.UNKNOWN);
        CHECKS.due("10 below", x.about(0, -1), ThirtyNine.OUTSIDE);
        CHECKS.due("10 above", x.about(0, 8), ThirtyNine.OUTSIDE);
    }

    private static void beats() {
        ThirtyNine x = Checks.with("x+y+1;t");
        x.nut(0, 0, 5, 2, 20);
        x.nut(0, 0, 5, 3, 20);
        x.nut(0, 0, 5, 4, 20);
        CHECKS.due("11 unknown a", x.beats(3, 0), ThirtyNine.UNKNOWN);
        CHECKS.due("11 unknown b", x.beats(0, 3), ThirtyNine.UNKNOWN);
        CHECKS.due("11 the same", x.beats(1, 1), ThirtyNine.UNKNOWN);
        CHECKS.due("11 six", x.beats(0, 1), 6);
        CHECKS.due("11 its count", x.about(0, 4), 6);
        CHECKS.due("11 the broken one's count stays", x.about(1, 4), 3);
        CHECKS.due("11 broken", x.about(1, 7), 1);
        CHECKS.due("11 whole", x.about(0, 7), 0);
        CHECKS.due("11 no crack", x.about(1, 6), 0);
        CHECKS.due("11 a is broken", x.beats(1, 2), ThirtyNine.STATE);
        CHECKS.due("11 b is broken", x.beats(2, 1), ThirtyNine.STATE);
        CHECKS.due("11 broken with itself", x.beats(1, 1), ThirtyNine.UNKNOWN);
        CHECKS.due("11 eleven", x.beats(2, 0), 11);
        ThirtyNine y = Checks.with("99+99+99+99;t", "x+x;t");
        y.nut(0, 0, 5, 2, 20);
        y.nut(0, 0, 5, 2, 20);
        y.nut(0, 1, 5, 2, 20);
        y.nut(0, 1, 5, 2, 20);
        y.nut(0, 0, 5, 2, 20);
        y.meeting(1);
        y.beats(0, 1);
        CHECKS.due("11 twice", y.beats(0, 2), 792);
        CHECKS.due("11 999 at most", y.beats(0, 3), 999);
    }

    private static void fight() {
        ThirtyNine x = two("x+y+1;t", 0, 5, 0, 5);
        CHECKS.due("12 unknown a", x.fight(2, 0, -1), ThirtyNine.UNKNOWN);
        CHECKS.due("12 unknown b", x.fight(0, -1, 0), ThirtyNine.UNKNOWN);
        CHECKS.due("12 the same", x.fight(0, 0, 0), ThirtyNine.UNKNOWN);
        CHECKS.due("12 seed", x.fight(0, 1, -1), ThirtyNine.OUTSIDE);
        CHECKS.due("12 would end so", x.would(0, 1, 0, 0), 1);
        CHECKS.due("12 who won", x.fight(0, 1, 0), 1);
        CHECKS.due("12 its count", x.about(1, 4), 5);
        CHECKS.due("12 the other one is broken", x.about(0, 7), 1);
        CHECKS.due("12 who won is whole", x.about(1, 7), 0);
        CHECKS.due("12 state", x.fight(0, 1, 0), ThirtyNine.STATE);
        CHECKS.due("12 state the other way", x.fight(1, 0, 0), ThirtyNine.STATE);
        CHECKS.due("12 seed ahead of state", x.fight(1, 0, -1), ThirtyNine.OUTSIDE);
        ThirtyNine greatest = two("x;o", 0, 5, 0, 5);
        CHECKS.holds("12 the greatest seed", greatest.fight(0, 1, Integer.MAX_VALUE) >= ThirtyNine.NONE);
    }

    private static ThirtyNine two(String school, int kind, int hardness, int otherKind, int otherHardness) {
        ThirtyNine x = Checks.with(school);
        x.nut(kind, 0, hardness, 2, 20);
        x.nut(otherKind, 0, otherHardness, 2, 20);
        return x;
    }

    /** The first draw by seed 0 is 0: tangled at once; who strikes behind it is as the school has it. */
    private static void fightOfTangles() {
        String[] schools = {"x;t", "x;o", "x;n"};
        int[][] strikesBehind = {{0, 1}, {1, 0}, {0, 0}};
        for (int school = 0; school < 3; school++) {
            for (int a = 0; a < 2; a++) {
                ThirtyNine x = two(schools[school], 0, 5, 0, 5);
                Struck told = new Struck();
                told.seat(0, 5, 0, schools[school]);
                told.seat(1, 5, 0, schools[school]);
                told.follow(a, 1 - a, 0);
                CHECKS.due("13 tangled at once", told.strikesBehindFirst, strikesBehind[school][a]);
                wouldBeAs(x, told, a, 1 - a, 0);
            }
        }
    }

    private static void wouldBeAs(ThirtyNine x, Struck told, int a, int b, int seed) {
        String call = "13 would(" + a + ", " + b + ", " + seed;
        CHECKS.due(call + ", 0)", x.would(a, b, seed, 0), told.winner);
        CHECKS.due(call + ", 1)", x.would(a, b, seed, 1), told.strikes);
        CHECKS.due(call + ", 2)", x.would(a, b, seed, 2), told.tangled);
        CHECKS.due(call + ", 3)", x.would(a, b, seed, 3), told.seedThen());
    }

    /** Unlike schools and kinds, again and again by other seeds, so that cracks stay from fight to fight. */
    private static void fightsOfManySeeds() {
        String[] schools = {"x;t", "x;o", "x;n"};
        for (int seed = 0; seed < 900; seed++) {
            ThirtyNine x = Checks.with(schools);
            x.nut(seed % 5, seed % 3, 1 + seed % 9, 2, 20);
            x.nut(seed / 5 % 5, seed / 3 % 3, 1 + seed / 9 % 9, 2, 20);
            x.nut(0, seed / 9 % 3, 5, 2, 20);
            Struck told = new Struck();
            for (int nut = 0; nut < 3; nut++) {
                told.seat(nut, x.about(nut, 3), 0, schools[x.about(nut, 1)]);
            }
            told.follow(1, 0, seed * 7919);
            wouldBeAs(x, told, 1, 0, seed * 7919);
            CHECKS.due("12 seed " + seed, x.fight(1, 0, seed * 7919), told.winner);
            CHECKS.due("12 cracks of a", x.about(1, 6), told.cracks[1]);
            CHECKS.due("12 cracks of b", x.about(0, 6), told.cracks[0]);
            int left = told.winner == 0 ? 0 : 1;
            told.follow(left, 2, seed);
            wouldBeAs(x, told, left, 2, seed);
            CHECKS.due("12 by one with cracks, seed " + seed, x.fight(left, 2, seed), told.winner);
            CHECKS.due("12 cracks that stayed", x.about(left, 6), told.cracks[left]);
        }
    }

    /** The first strike by these seeds is not tangled, and draws 95, 94, 0, 1 of a hundred. */
    private static void leastAndGreatestChance() {
        int draws95 = 35, draws94 = 153, draws0 = 80, draws1 = 19;
        ThirtyNine x = Checks.with("x;o");
        x.nut(4, 0, 1, 0, 20);
        x.nut(0, 0, 1, 0, 20);
        x.nut(3, 0, 9, 0, 20);
        CHECKS.due("12 the paper wins", x.fight(0, 1, 56), 0);
        CHECKS.due("12 with six cracks", x.about(0, 6), 6);
        // 15, 5 times 12 and 4 times 6 are 99: 95 at most.
        CHECKS.due("13 94 breaks", x.would(2, 0, draws94, 1), 1);
        CHECKS.holds("13 95 does not", x.would(2, 0, draws95, 1) > 1);
        // 15 less 5 times 12 is below 1: 1 at least.
        CHECKS.due("13 0 breaks", x.would(0, 2, draws0, 1), 1);
        CHECKS.due("13 so that the paper wins", x.would(0, 2, draws0, 0), 0);
        CHECKS.holds("13 1 does not", x.would(0, 2, draws1, 1) > 1);
    }

    /** The longest fight known: the struck one breaks by the fiftieth strike, twenty of them tangled. */
    private static void fiftyStrikes() {
        ThirtyNine x = two("x+1;n", 0, 1, 0, 5);
        int seed = 64869361;
        CHECKS.due("13 who wins", x.would(0, 1, seed, 0), 1);
        CHECKS.due("13 fifty strikes", x.would(0, 1, seed, 1), 50);
        CHECKS.due("13 twenty tangled", x.would(0, 1, seed, 2), 20);
        CHECKS.due("12 who won", x.fight(0, 1, seed), 1);
    }

    private static void would() {
        ThirtyNine x = two("x;t", 0, 5, 0, 5);
        x.nut(0, 0, 5, 2, 20);
        CHECKS.due("13 unknown", x.would(0, 3, -1, 9), ThirtyNine.UNKNOWN);
        CHECKS.due("13 the same", x.would(1, 1, 0, 0), ThirtyNine.UNKNOWN);
        CHECKS.due("13 seed", x.would(0, 1, -1, 0), ThirtyNine.OUTSIDE);
        CHECKS.due("13 below", x.would(0, 1, 0, -1), ThirtyNine.OUTSIDE);
        CHECKS.due("13 above", x.would(0, 1, 0, 4), ThirtyNine.OUTSIDE);
        long before = x.digest();
        for (int what = 0; what < 4; what++) {
            x.would(0, 1, 77, what);
        }
        CHECKS.due("13 it changes nothing", x.digest(), before);
        x.beats(0, 2);
        CHECKS.due("13 state", x.would(2, 1, 0, 0), ThirtyNine.STATE);
        CHECKS.due("13 what ahead of state", x.would(2, 1, 0, 4), ThirtyNine.OUTSIDE);
        CHECKS.due("13 seed ahead of state", x.would(1, 2, -1, 0), ThirtyNine.OUTSIDE);
    }

    private static void scales() {
        ThirtyNine x = Checks.with("x;t");
        x.nut(1, 0, 5, 2, 50);
        x.nut(0, 0, 5, 2, 33);
        x.nut(0, 0, 5, 2, 99);
        CHECKS.due("14 unknown", x.scales(3, 0), ThirtyNine.UNKNOWN);
        CHECKS.due("14 below", x.scales(0, 0), ThirtyNine.OUTSIDE);
        CHECKS.due("14 above", x.scales(0, 200), ThirtyNine.OUTSIDE);
        CHECKS.due("14 more than a fifth lost", x.scales(0, 39), 2);
        CHECKS.due("14 a fifth lost", x.scales(0, 40), 0);
        CHECKS.due("14 as it was", x.scales(0, 50), 0);
        CHECKS.due("14 a tenth more", x.scales(0, 55), 0);
        CHECKS.due("14 more than a tenth more", x.scales(0, 56), 3);
        CHECKS.due("14 a fifth of 33 is 6.6: 6 lost", x.scales(1, 27), 0);
        CHECKS.due("14 a fifth of 33 is 6.6: 7 lost", x.scales(1, 26), 2);
        CHECKS.due("14 a tenth of 33 is 3.3: 3 more", x.scales(1, 36), 0);
        CHECKS.due("14 a tenth of 33 is 3.3: 4 more", x.scales(1, 37), 3);
        CHECKS.due("14 least", x.scales(2, 1), 2);
        CHECKS.due("14 greatest", x.scales(2, 199), 3);
        CHECKS.due("14 its weight stays", x.about(0, 5), 50);
        CHECKS.due("14 its kind stays", x.about(0, 0), 1);
    }
}
