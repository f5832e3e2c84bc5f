/** Promises 24 to 30: comers, seasons, trees, runs. */
final class SeasonTest {
    private static final Checks CHECKS = new Checks("SeasonTest");

    public static void main(String[] args) {
        comer();
        gone();
        worth();
        season();
        seasonOfLikeSets();
        tree();
        last();
        run();
        CHECKS.end();
    }

    private static void comer() {
        ThirtyNine x = Checks.with("x+1;t");
        CHECKS.due("24 unknown", x.comer(1, -1, -1), ThirtyNine.UNKNOWN);
        CHECKS.due("24 count below", x.comer(0, -1, 5), ThirtyNine.OUTSIDE);
        CHECKS.due("24 count above", x.comer(0, 100, 5), ThirtyNine.OUTSIDE);
        CHECKS.due("24 tenths below", x.comer(0, 5, -1), ThirtyNine.OUTSIDE);
        CHECKS.due("24 tenths above", x.comer(0, 5, 11), ThirtyNine.OUTSIDE);
        CHECKS.due("24 none came", x.count(5), 0);
        CHECKS.due("24 least", x.comer(0, 0, 0), 1);
        CHECKS.due("24 greatest", x.comer(0, 99, 10), 2);
        for (int i = 3; i <= 8; i++) {
            CHECKS.due("24 how many", x.comer(0, i, i), i);
        }
        CHECKS.due("24 full", x.comer(0, 1, 1), ThirtyNine.FULL);
        CHECKS.due("24 outside ahead of full", x.comer(0, 1, 11), ThirtyNine.OUTSIDE);
        CHECKS.due("24 eight", x.count(5), 8);
    }

    private static void gone() {
        ThirtyNine x = Checks.with("x+1;t");
        CHECKS.due("25 none", x.gone(), 0);
        x.comer(0, 1, 1);
        x.comer(0, 2, 2);
        CHECKS.due("25 two", x.gone(), 2);
        CHECKS.due("25 none then", x.count(5), 0);
        CHECKS.due("25 from the start again", x.comer(0, 3, 3), 1);
    }

    private static void worth() {
        ThirtyNine x = Checks.with("x+y;t", "x+9;t");
        x.nut(0, 0, 5, 3, 20);
        x.nut(0, 0, 5, 0, 20);
        x.comer(0, 4, 8);
        x.comer(1, 5, 10);
        x.comer(0, 0, 1);
        CHECKS.due("26 unknown", x.worth(2, 99, 9), ThirtyNine.UNKNOWN);
        CHECKS.due("26 set below", x.worth(0, -1, 0), ThirtyNine.OUTSIDE);
        CHECKS.due("26 set above", x.worth(0, 8, 0), ThirtyNine.OUTSIDE);
        CHECKS.due("26 part below", x.worth(0, 0, -1), ThirtyNine.OUTSIDE);
        CHECKS.due("26 part above", x.worth(0, 0, 2), ThirtyNine.OUTSIDE);
        worthIs(x, 0, 0, 3, 1);
        worthIs(x, 0, 1, 28, 5);
        worthIs(x, 0, 2, 8, 1);
        // 12 times 8 and 9 tenths: the second is one tenth less behind the first.
        worthIs(x, 0, 3, 216, 25);
        worthIs(x, 0, 4, 3, 10);
        // One tenth less than 1 is none at all.
        worthIs(x, 0, 5, 0, 1);
        worthIs(x, 0, 7, 0, 1);
        worthIs(x, 1, 0, 0, 1);
        x.meeting(1);
        worthIs(x, 0, 2, 12, 1);
        x.nut(0, 0, 5, 50, 20);
        x.beats(0, 2);
        x.meeting(0);
        worthIs(x, 0, 0, 53, 1);
    }

    private static void worthIs(ThirtyNine x, int nut, int set, long above, long below) {
        CHECKS.due("26 set " + set + " of " + nut + ", above", x.worth(nut, set, 0), above);
        CHECKS.due("26 set " + set + " of " + nut + ", below", x.worth(nut, set, 1), below);
    }

    private static void season() {
        ThirtyNine x = Checks.with("x+y;t");
        x.nut(0, 0, 5, 10, 20);
        CHECKS.due("27 unknown", x.season(1), ThirtyNine.UNKNOWN);
        CHECKS.due("27 unknown below", x.season(-1), ThirtyNine.UNKNOWN);
        CHECKS.due("27 no comers", x.season(0), 0);
        x.comer(0, 1, 9);
        CHECKS.due("27 11 in 9 of ten are less than 10", x.season(0), 0);
        x.comer(0, 10, 8);
        CHECKS.due("27 20 in 8 of ten are more", x.season(0), 2);
        x.comer(0, 99, 10);
        // The last alone is 109 for sure; behind the second it is 119 in 72 of a hundred.
        CHECKS.due("27 the last alone", x.season(0), 4);
        x.gone();
        CHECKS.due("27 all gone", x.season(0), 0);
    }

    private static void seasonOfLikeSets() {
        ThirtyNine x = Checks.with("x+y;t");
        x.nut(0, 0, 5, 9, 20);
        x.comer(0, 1, 9);
        CHECKS.due("27 9 in all or 10 in 9 of ten: fewest", x.season(0), 0);
        ThirtyNine y = Checks.with("x+y;t");
        y.nut(0, 0, 5, 1, 20);
        y.comer(0, 5, 10);
        y.comer(0, 5, 10);
        y.gone();
        y.comer(0, 5, 1);
        y.comer(0, 9, 10);
        y.comer(0, 9, 10);
        // 10 alone; both: 19 in 9 of ten are more.
        CHECKS.due("27 both", y.season(0), 6);
        ThirtyNine z = Checks.with("9;t");
        z.nut(0, 0, 5, 1, 20);
        z.comer(0, 9, 9);
        z.comer(0, 9, 10);
        z.comer(0, 9, 10);
        CHECKS.due("27 of like ones the least bits", z.season(0), 2);
        ThirtyNine all = Checks.with("x+x;t");
        all.nut(0, 0, 5, 99, 20);
        for (int i = 0; i < 8; i++) {
            all.comer(0, 0, 10);
        }
        // 99, 198, 356.4, 570.2 (792 in 720 of a thousand), then 999 in 504 of a thousand.
        CHECKS.due("27 eight comers", all.season(0), 7);
    }

    /** Hard: 5, 7, 6, 0, 9. */
    private static ThirtyNine five() {
        ThirtyNine x = Checks.with("x+1;t");
        x.nut(0, 0, 5, 0, 20);
        x.nut(1, 0, 6, 0, 20);
        x.nut(2, 0, 4, 0, 20);
        x.nut(4, 0, 9, 0, 20);
        x.nut(3, 0, 6, 0, 20);
        return x;
    }

    private static void tree() {
        ThirtyNine x = five();
        CHECKS.due("28 unknown", x.tree(0, 1, 2, 5, 9, 9), ThirtyNine.UNKNOWN);
        CHECKS.due("28 unknown below", x.tree(-1, 1, 2, 3, 0, 0), ThirtyNine.UNKNOWN);
        int[][] twice = {{0, 0, 1, 2}, {0, 1, 0, 2}, {0, 1, 2, 0}, {1, 0, 0, 2}, {1, 0, 2, 0}, {1, 2, 0, 0}};
        for (int[] four : twice) {
            CHECKS.due("28 two are the same", x.tree(four[0], four[1], four[2], four[3], 0, 0), ThirtyNine.UNKNOWN);
            CHECKS.due("29 two are the same", x.last(four[0], four[1], four[2], four[3]), ThirtyNine.UNKNOWN);
        }
        CHECKS.due("28 who below", x.tree(0, 1, 2, 3, -1, 0), ThirtyNine.OUTSIDE);
        CHECKS.due("28 who above", x.tree(0, 1, 2, 3, 4, 0), ThirtyNine.OUTSIDE);
        CHECKS.due("28 part below", x.tree(0, 1, 2, 3, 0, -1), ThirtyNine.OUTSIDE);
        CHECKS.due("28 part above", x.tree(0, 1, 2, 3, 0, 2), ThirtyNine.OUTSIDE);
        // a beats b in 3 of ten, c beats d in 9; a beats c in 4, d in 9; b beats c in 6, d in 9.
        treeIs(x, 0, 3 * (9 * 4 + 1 * 9));
        treeIs(x, 1, 7 * (9 * 6 + 1 * 9));
        treeIs(x, 2, 9 * (3 * 6 + 7 * 4));
        treeIs(x, 3, 1 * (3 * 1 + 7 * 1));
        x.beats(1, 0);
        treeIs(x, 0, 3 * (9 * 4 + 1 * 9));
    }

    private static void treeIs(ThirtyNine x, int who, int thousandths) {
        int common = 1;
        for (int i = 2; i <= 1000; i++) {
            common = thousandths % i == 0 && 1000 % i == 0 ? i : common;
        }
        CHECKS.due("28 above for " + who, x.tree(0, 1, 2, 3, who, 0), thousandths / common);
        CHECKS.due("28 below for " + who, x.tree(0, 1, 2, 3, who, 1), 1000 / common);
    }

    private static void last() {
        ThirtyNine x = five();
        CHECKS.due("29 unknown", x.last(0, 1, 2, 5), ThirtyNine.UNKNOWN);
        CHECKS.due("29 unknown below", x.last(0, 1, -1, 2), ThirtyNine.UNKNOWN);
        // a with c: 4 times b over d 9; a with d: 9 times b over c 6.
        CHECKS.due("29 a with d", x.last(0, 1, 2, 3), 2);
        CHECKS.due("29 a with c", x.last(0, 1, 3, 2), 1);
        // Hard: 9, 6 first; with 5: 9 times 4, with 7: 7 times 6.
        CHECKS.due("29 both ways are near", x.last(4, 2, 0, 1), 2);
        CHECKS.due("29 both ways are near, turned", x.last(4, 2, 1, 0), 1);
        // Hard: 5, 7 first; with 6: 4 times 3, with 9: 1 times 6.
        CHECKS.due("29 the one below the other", x.last(0, 1, 2, 4), 1);
        CHECKS.due("29 the one below the other, turned", x.last(0, 1, 4, 2), 2);
        // Hard: 6, 0 first; with 5: 6 times 1, with 7: 4 times 1.
        CHECKS.due("29 the second has hardly a chance", x.last(2, 3, 0, 1), 1);
        CHECKS.due("29 the second has hardly a chance, turned", x.last(2, 3, 1, 0), 2);
        ThirtyNine like = Checks.with("x+1;t");
        for (int i = 0; i < 4; i++) {
            like.nut(0, 0, 5, 0, 20);
        }
        CHECKS.due("29 of like ones the least", like.last(0, 1, 2, 3), 1);
    }

    private static void run() {
        ThirtyNine x = new ThirtyNine();
        CHECKS.due("30 w below", x.run(0, 5, 0), ThirtyNine.OUTSIDE);
        CHECKS.due("30 w above", x.run(10, 5, 0), ThirtyNine.OUTSIDE);
        CHECKS.due("30 tenths below", x.run(1, -1, 0), ThirtyNine.OUTSIDE);
        CHECKS.due("30 tenths above", x.run(1, 11, 0), ThirtyNine.OUTSIDE);
        CHECKS.due("30 part below", x.run(1, 5, -1), ThirtyNine.OUTSIDE);
        CHECKS.due("30 part above", x.run(1, 5, 2), ThirtyNine.OUTSIDE);
        runIs(x, 1, 5, 1, 2);
        runIs(x, 9, 5, 1, 512);
        runIs(x, 9, 9, 387420489, 1000000000);
        runIs(x, 9, 1, 1, 1000000000);
        runIs(x, 9, 10, 1, 1);
        runIs(x, 9, 0, 0, 1);
        runIs(x, 3, 4, 8, 125);
        runIs(x, 1, 7, 7, 10);
    }

    private static void runIs(ThirtyNine x, int w, int tenths, int above, int below) {
        CHECKS.due("30 run(" + w + ", " + tenths + "), above", x.run(w, tenths, 0), above);
        CHECKS.due("30 run(" + w + ", " + tenths + "), below", x.run(w, tenths, 1), below);
    }
}
