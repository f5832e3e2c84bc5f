/** Promises 15 to 21: told fights, claims, sets, lies, reach. */
final class ToldTest {
    private static final Checks CHECKS = new Checks("ToldTest");

    public static void main(String[] args) {
        told();
        claim();
        by();
        byFirstCounts();
        lies();
        liesOfLikeSets();
        most();
        whose();
        reach();
        reachAtTheTop();
        CHECKS.end();
    }

    /** Nuts of one school "x+y+1" with these counts. */
    private static ThirtyNine nuts(int... counts) {
        ThirtyNine x = Checks.with("x+y+1;t");
        for (int count : counts) {
            x.nut(0, 0, 5, count, 20);
        }
        return x;
    }

    private static void told() {
        ThirtyNine x = nuts(0, 0, 0);
        CHECKS.due("15 unknown winner", x.told(3, 0), ThirtyNine.UNKNOWN);
        CHECKS.due("15 unknown loser", x.told(0, -1), ThirtyNine.UNKNOWN);
        CHECKS.due("15 the same", x.told(2, 2), ThirtyNine.UNKNOWN);
        CHECKS.due("15 none came", x.count(3), 0);
        x.beats(0, 1);
        for (int i = 1; i <= 10; i++) {
            CHECKS.due("15 how many, broken or not", x.told(1, 0), i);
        }
        CHECKS.due("15 full", x.told(0, 1), ThirtyNine.FULL);
        CHECKS.due("15 unknown ahead of full", x.told(0, 0), ThirtyNine.UNKNOWN);
        CHECKS.due("15 ten", x.count(3), 10);
        CHECKS.due("15 nothing else comes of it", x.about(1, 4), 0);
    }

    private static void claim() {
        ThirtyNine x = nuts(0, 0);
        CHECKS.due("16 unknown", x.claim(2, 5000), ThirtyNine.UNKNOWN);
        CHECKS.due("16 below", x.claim(0, -2), ThirtyNine.OUTSIDE);
        CHECKS.due("16 above", x.claim(0, 1000), ThirtyNine.OUTSIDE);
        CHECKS.due("16 none was", x.claim(0, 0), ThirtyNine.NONE);
        CHECKS.due("16 0 was", x.claim(0, 999), 0);
        CHECKS.due("16 of the other one none", x.claim(1, 7), ThirtyNine.NONE);
        CHECKS.due("16 two", x.count(4), 2);
        CHECKS.due("16 999 was", x.claim(0, ThirtyNine.NONE), 999);
        CHECKS.due("16 none again", x.claim(0, ThirtyNine.NONE), ThirtyNine.NONE);
        CHECKS.due("16 one", x.count(4), 1);
    }

    private static void by() {
        ThirtyNine x = nuts(1, 2, 3);
        x.told(0, 1);
        x.told(1, 2);
        x.told(2, 0);
        CHECKS.due("17 empty can be", x.by(0, ThirtyNine.NONE), 1);
        CHECKS.due("17 empty", x.by(0, 2), 3);
        CHECKS.due("17 one", x.by(1, 0), 4);
        CHECKS.due("17 loser's count stays", x.by(1, 1), 2);
        CHECKS.due("17 a loser wins behind it", x.by(3, ThirtyNine.NONE), 0);
        CHECKS.due("17 a loser wins behind it: state", x.by(3, 0), ThirtyNine.STATE);
        CHECKS.due("17 of one not in it, too", x.by(3, 2), ThirtyNine.STATE);
        CHECKS.due("17 in a chain", x.by(5, 2), 8);
        CHECKS.due("17 a loser loses again", x.by(6, ThirtyNine.NONE), 0);
        x.told(2, 1);
        CHECKS.due("17 loses twice", x.by(9, ThirtyNine.NONE), 0);
        CHECKS.due("17 unknown", x.by(16, 3), ThirtyNine.UNKNOWN);
        CHECKS.due("17 unknown, not NONE", x.by(0, -2), ThirtyNine.UNKNOWN);
        CHECKS.due("17 unknown ahead of state", x.by(3, 3), ThirtyNine.UNKNOWN);
        CHECKS.due("17 outside", x.by(16, 0), ThirtyNine.OUTSIDE);
        CHECKS.due("17 outside of NONE", x.by(16, ThirtyNine.NONE), ThirtyNine.OUTSIDE);
        CHECKS.due("17 outside below", x.by(-1, 0), ThirtyNine.OUTSIDE);
        CHECKS.due("17 the greatest", x.by(15, ThirtyNine.NONE), 0);
    }

    private static void byFirstCounts() {
        ThirtyNine x = Checks.with("x+y;t", "x+9;t");
        x.nut(0, 0, 5, 1, 20);
        x.nut(0, 1, 5, 2, 20);
        x.nut(0, 0, 5, 3, 20);
        x.beats(0, 2);
        x.told(0, 1);
        CHECKS.due("17 counts as they were told", x.by(0, 0), 1);
        CHECKS.due("17 by that of who wins", x.by(1, 0), 3);
        x.meeting(1);
        CHECKS.due("17 by that of who loses", x.by(1, 0), 10);
        x.told(0, 2);
        CHECKS.due("17 as if all were whole", x.by(3, 0), 13);
    }

    private static void lies() {
        ThirtyNine x = nuts(1, 2, 3);
        CHECKS.due("18 below", x.lies(-1), ThirtyNine.OUTSIDE);
        CHECKS.due("18 above", x.lies(2), ThirtyNine.OUTSIDE);
        x.told(0, 1);
        x.told(1, 2);
        CHECKS.due("18 one of them lies", x.lies(0), 1);
        CHECKS.due("18 of least bits", x.lies(1), 1);
        x.claim(1, 6);
        CHECKS.due("18 a claim weighs as much", x.lies(0), 1);
        CHECKS.due("18 the claim tells", x.lies(1), 2);
        x.claim(2, 4);
        x.claim(0, 2);
        CHECKS.due("18 three lies", x.lies(0), 3);
        x.claim(2, 3);
        CHECKS.due("18 loser's count is as told", x.lies(0), 2);
        CHECKS.due("18 still the second", x.lies(1), 2);
    }

    private static void liesOfLikeSets() {
        ThirtyNine x = nuts(1, 2, 3);
        x.told(0, 1);
        x.claim(0, 1);
        CHECKS.due("18 one lie either way", x.lies(0), 1);
        CHECKS.due("18 most fights of like ones", x.lies(1), 1);
        ThirtyNine y = nuts(1, 1, 1);
        y.told(0, 1);
        y.told(0, 1);
        CHECKS.due("18 told twice is one lie", y.lies(0), 1);
        CHECKS.due("18 the first of the two", y.lies(1), 1);
    }

    private static void most() {
        ThirtyNine x = nuts(1, 2, 3);
        x.told(0, 1);
        x.told(0, 2);
        x.told(1, 2);
        CHECKS.due("19 unknown", x.most(3, 19), ThirtyNine.UNKNOWN);
        CHECKS.due("19 below", x.most(0, -1), ThirtyNine.OUTSIDE);
        CHECKS.due("19 above", x.most(0, 19), ThirtyNine.OUTSIDE);
        CHECKS.due("19 no set of no lies", x.most(0, 0), ThirtyNine.NONE);
        CHECKS.due("19 one lie", x.most(0, 1), 8);
        CHECKS.due("19 of the second with one", x.most(1, 1), 2);
        CHECKS.due("19 of the second with two", x.most(1, 2), 6);
        CHECKS.due("19 with all", x.most(1, 18), 6);
        CHECKS.due("19 of the third by no fight at all", x.most(2, 18), 3);
        ThirtyNine lesser = Checks.with("l;t");
        lesser.nut(0, 0, 5, 9, 20);
        lesser.nut(0, 0, 5, 1, 20);
        lesser.told(0, 1);
        CHECKS.due("19 the fight makes it less", lesser.most(0, 0), 1);
        CHECKS.due("19 the greatest is that of the empty set", lesser.most(0, 1), 9);
        x.claim(0, 8);
        CHECKS.due("19 a claim more", x.most(1, 2), 2);
        CHECKS.due("19 with three", x.most(1, 3), 6);
    }

    private static void whose() {
        ThirtyNine x = nuts(1, 2, 3);
        CHECKS.due("20 none told", x.whose(0), ThirtyNine.UNKNOWN);
        x.told(0, 1);
        x.told(1, 2);
        x.told(0, 2);
        CHECKS.due("20 below", x.whose(-1), ThirtyNine.UNKNOWN);
        CHECKS.due("20 above", x.whose(3), ThirtyNine.UNKNOWN);
        CHECKS.due("20 the set 5 alone has one lie", x.lies(1), 5);
        CHECKS.due("20 in it", x.whose(0), 0);
        CHECKS.due("20 not in it", x.whose(1), 1);
        CHECKS.due("20 in it, too", x.whose(2), 0);
        x.claim(1, 6);
        // The set 5 has one fight out and the claim; the set 2 has two fights out, and the claim is true by it.
        CHECKS.due("20 two lies", x.lies(0), 2);
        CHECKS.due("20 first", x.whose(0), 1);
        CHECKS.due("20 second", x.whose(1), 1);
        CHECKS.due("20 third", x.whose(2), 1);
        ThirtyNine y = nuts(1, 2);
        y.told(0, 1);
        y.claim(0, 1);
        CHECKS.due("20 the empty set is one of them", y.whose(0), 1);
    }

    private static void reach() {
        ThirtyNine x = Checks.with("x+y;t", "x+1;t");
        x.nut(0, 1, 5, 2, 20);
        x.nut(0, 1, 5, 3, 20);
        x.nut(0, 1, 5, 4, 20);
        CHECKS.due("21 none", x.reach(0, 0), 1 << 2);
        CHECKS.due("21 one", x.reach(0, 2), 1 << 3);
        CHECKS.due("21 two: both by it, or one by the other", x.reach(0, 6), 1 << 3 | 1 << 4);
        CHECKS.due("21 unknown", x.reach(3, -1), ThirtyNine.UNKNOWN);
        CHECKS.due("21 itself", x.reach(0, 1), ThirtyNine.OUTSIDE);
        CHECKS.due("21 not there", x.reach(0, 8), ThirtyNine.OUTSIDE);
        CHECKS.due("21 below", x.reach(0, Integer.MIN_VALUE), ThirtyNine.OUTSIDE);
        x.beats(1, 0);
        CHECKS.due("21 as told, whoever is broken now", x.reach(0, 6), 1 << 3 | 1 << 4);
        ThirtyNine all = nuts(0, 0, 0, 0, 0, 0, 0, 0);
        CHECKS.due("21 five: each adds one, whoever breaks it", all.reach(7, 31), 1 << 5);
        CHECKS.due("21 five at most", all.reach(7, 63), ThirtyNine.OUTSIDE);
        CHECKS.due("21 the first and the last", all.reach(0, 1 << 7), 1 << 1);
        reachOfMany();
    }

    /** By "x+h" what is broken by others is halved on its way: many counts, all tried by the model. */
    private static void reachOfMany() {
        String[] texts = {"x+h;t", "l+3;o", "y+1;n"};
        int[] counts = {1, 9, 4, 7, 3, 0, 6, 8};
        for (int how = 0; how < 4; how++) {
            ThirtyNine x = Checks.with(texts);
            Model model = new Model();
            for (String text : texts) {
                model.letters(Checks.packed(text));
                model.school();
            }
            for (int i = 0; i < 8; i++) {
                x.nut(0, i * how % 3, 5, counts[i], 20);
                model.nut(0, i * how % 3, 5, counts[i], 20);
            }
            x.meeting(how);
            model.meeting(how);
            CHECKS.due("21 of many, the last", x.reach(7, 31), model.reach(7, 31));
            CHECKS.due("21 of many, the first", x.reach(0, 62 << 2), model.reach(0, 62 << 2));
            CHECKS.due("21 of many, one between", x.reach(3, 0b10110110), model.reach(3, 0b10110110));
        }
    }

    private static void reachAtTheTop() {
        ThirtyNine x = Checks.with("x+y;t", "h;t");
        x.nut(0, 0, 5, 99, 20);
        x.nut(0, 0, 5, 30, 20);
        x.nut(0, 0, 5, 32, 20);
        x.nut(0, 0, 5, 31, 20);
        x.nut(0, 1, 5, 1, 20);
        CHECKS.due("21 99 is 62 there", x.reach(0, 0), 1L << 62);
        CHECKS.due("21 62", x.reach(1, 4), 1L << 62);
        CHECKS.due("21 63 is 62 there", x.reach(2, 8), 1L << 62);
        CHECKS.due("21 61", x.reach(1, 8), 1L << 61);
        CHECKS.due("21 half of 62, not of 99", x.reach(4, 1), 1L << 31);
    }
}
