/** Objects that tests begin from: with nothing, with some of everything, with all that there may be. */
final class Worlds {
    static final String LONGEST_SCHOOL = "99+99+99+99;t";
    static final String SOME_PAGE = "x+1;", FULL_PAGE = LONGEST_SCHOOL + "xxxxxxx";
    /** Who won and who lost; in some() the last is told behind the image. */
    static final int[][] SOME_TOLD = {{0, 1}, {1, 2}, {2, 3}, {3, 5}};
    static final int[][] FULL_TOLD = {
        {0, 1}, {1, 4}, {2, 7}, {3, 2}, {4, 5}, {5, 0}, {6, 3}, {7, 6}, {0, 1}, {1, 4}
    };
    /** School, count, tenths. */
    static final int[][] SOME_COMERS = {{0, 9, 8}, {1, 30, 10}, {0, 50, 3}};
    static final int[][] FULL_COMERS = {
        {0, 0, 10}, {1, 10, 9}, {2, 20, 8}, {0, 30, 7}, {1, 40, 6}, {2, 50, 5}, {0, 60, 4}, {1, 70, 3}
    };

    private Worlds() {
    }

    static ThirtyNine empty() {
        return new ThirtyNine();
    }

    /**
     * Two schools, six nuts (2 and 4 broken, 1 with cracks), four told fights, three claims,
     * three comers, four letters, and an image from ahead of the last changes.
     */
    static ThirtyNine some() {
        ThirtyNine x = Checks.with("x+y;t", "l+h+7;n");
        for (int i = 0; i < 6; i++) {
            x.nut(i % 5, i % 2, 3 + i, 2 * i + 1, 20 + i);
        }
        x.meeting(2);
        tell(x, SOME_TOLD, 0, 3);
        x.claim(0, 4);
        x.claim(2, 12);
        bring(x, SOME_COMERS);
        x.beats(0, 4);
        x.image();
        x.fight(1, 2, 11);
        tell(x, SOME_TOLD, 3, 4);
        x.claim(1, 8);
        Checks.write(x, SOME_PAGE);
        return x;
    }

    private static void tell(ThirtyNine x, int[][] fights, int from, int to) {
        for (int i = from; i < to; i++) {
            x.told(fights[i][0], fights[i][1]);
        }
    }

    private static void bring(ThirtyNine x, int[][] comers) {
        for (int[] comer : comers) {
            x.comer(comer[0], comer[1], comer[2]);
        }
    }

    /**
     * Three schools, eight nuts (4 and 5 broken, 6 with cracks), ten told fights, eight claims,
     * eight comers, twenty letters, and an image from ahead of the last changes.
     */
    static ThirtyNine full() {
        ThirtyNine x = fullOfNuts();
        tell(x, FULL_TOLD, 0, 10);
        bring(x, FULL_COMERS);
        for (int i = 0; i < 8; i++) {
            x.claim(i, 3 * i + i % 2);
        }
        x.meeting(3);
        x.beats(1, 5);
        x.image();
        x.fight(6, 4, 40);
        x.claim(2, 999);
        Checks.write(x, FULL_PAGE);
        return x;
    }

    /** Three schools and eight nuts, with nothing told of them. */
    static ThirtyNine fullOfNuts() {
        ThirtyNine x = Checks.with("x+y;t", "l+h+7;n", "m+1+x;o");
        for (int i = 0; i < 8; i++) {
            x.nut(i % 5, i % 3, 1 + i, 3 * i, 30 + i);
        }
        return x;
    }

    /** As many whole nuts as there are counts, each hard 5 and of the one school. */
    static ThirtyNine nuts(String school, int... counts) {
        ThirtyNine x = Checks.with(school);
        for (int count : counts) {
            x.nut(0, 0, 5, count, 20);
        }
        return x;
    }
}
