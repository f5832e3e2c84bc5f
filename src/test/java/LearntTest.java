/** Promises 22 and 23: what is learnt of hardness from told fights. */
final class LearntTest {
    private static final Checks CHECKS = new Checks("LearntTest");

    public static void main(String[] args) {
        odds();
        likely();
        greatestTold();
        moreThanSix();
        CHECKS.end();
    }

    private static ThirtyNine nuts(int many) {
        ThirtyNine x = Checks.with("x+1;t");
        for (int i = 0; i < many; i++) {
            x.nut(i % 5, 0, 1 + i, i, 20);
        }
        return x;
    }

    private static void odds() {
        ThirtyNine x = nuts(3);
        CHECKS.due("22 unknown a", x.odds(3, 0, 9), ThirtyNine.UNKNOWN);
        CHECKS.due("22 unknown b", x.odds(0, -1, 0), ThirtyNine.UNKNOWN);
        CHECKS.due("22 the same", x.odds(1, 1, 0), ThirtyNine.UNKNOWN);
        CHECKS.due("22 part below", x.odds(0, 1, -1), ThirtyNine.OUTSIDE);
        CHECKS.due("22 part above", x.odds(0, 1, 2), ThirtyNine.OUTSIDE);
        CHECKS.due("22 nothing told, above", x.odds(0, 1, 0), 1);
        CHECKS.due("22 nothing told, below", x.odds(0, 1, 1), 2);
        x.told(0, 1);
        // The nine ways weigh 5 5 5, 6 6, 4 4, 7, 3: 45 in all; squares 75, 72, 32, 49, 9: 237 of 450.
        CHECKS.due("22 beaten once, above", x.odds(0, 1, 0), 79);
        CHECKS.due("22 beaten once, below", x.odds(0, 1, 1), 150);
        CHECKS.due("22 the other way, above", x.odds(1, 0, 0), 71);
        CHECKS.due("22 the other way, below", x.odds(1, 0, 1), 150);
        x.told(1, 0);
        CHECKS.due("22 told both ways, above", x.odds(0, 1, 0), 1);
        CHECKS.due("22 told both ways, below", x.odds(0, 1, 1), 2);
    }

    private static void likely() {
        ThirtyNine x = nuts(2);
        CHECKS.due("23 unknown", x.likely(2, 0, 9), ThirtyNine.UNKNOWN);
        CHECKS.due("23 how below", x.likely(0, 0, 0), ThirtyNine.OUTSIDE);
        CHECKS.due("23 how above", x.likely(0, 4, 0), ThirtyNine.OUTSIDE);
        CHECKS.due("23 part below", x.likely(0, 1, -1), ThirtyNine.OUTSIDE);
        CHECKS.due("23 part above", x.likely(0, 1, 2), ThirtyNine.OUTSIDE);
        for (int how = 1; how <= 3; how++) {
            CHECKS.due("23 as likely ahead, above", x.likely(1, how, 0), 1);
            CHECKS.due("23 as likely ahead, below", x.likely(1, how, 1), 3);
        }
        x.told(1, 0);
        // The one that won: 5 4 3 if soft, 6 5 4 if middle, 7 6 5 if hard, of 45.
        int[] above = {0, 4, 1, 2};
        int[] below = {0, 15, 3, 5};
        for (int how = 1; how <= 3; how++) {
            CHECKS.due("23 who won, above", x.likely(1, how, 0), above[how]);
            CHECKS.due("23 who won, below", x.likely(1, how, 1), below[how]);
            CHECKS.due("23 who lost, above", x.likely(0, 4 - how, 0), above[how]);
            CHECKS.due("23 who lost, below", x.likely(0, 4 - how, 1), below[how]);
        }
    }

    private static void greatestTold() {
        ThirtyNine x = nuts(6);
        for (int i = 0; i < 10; i++) {
            x.told(0, 1);
        }
        // 3, 2, 1, 2, 1 ways of 5, 6, 4, 7, 3 to the tenth power, in lowest terms.
        long all = 3 * 9765625L + 2 * 60466176L + 2 * 1048576L + 282475249L + 59049L;
        long won = 5 * 3 * 9765625L + 6 * 2 * 60466176L + 4 * 2 * 1048576L + 7 * 282475249L + 3 * 59049L;
        long common = divisor(won, 10 * all);
        CHECKS.due("22 ten told, above", x.odds(0, 1, 0), won / common);
        CHECKS.due("22 ten told, below", x.odds(0, 1, 1), 10 * all / common);
        CHECKS.due("22 of others", x.odds(4, 5, 1), 2);
        CHECKS.due("23 of others", x.likely(5, 3, 1), 3);
    }

    private static long divisor(long a, long b) {
        return b == 0 ? a : divisor(b, a % b);
    }

    private static void moreThanSix() {
        ThirtyNine x = nuts(7);
        CHECKS.due("22 state", x.odds(0, 1, 0), ThirtyNine.STATE);
        CHECKS.due("22 outside ahead of state", x.odds(0, 1, 2), ThirtyNine.OUTSIDE);
        CHECKS.due("22 unknown ahead of it", x.odds(0, 7, 2), ThirtyNine.UNKNOWN);
        CHECKS.due("23 state", x.likely(0, 1, 0), ThirtyNine.STATE);
        CHECKS.due("23 outside ahead of state", x.likely(0, 0, 0), ThirtyNine.OUTSIDE);
        CHECKS.due("23 unknown ahead of it", x.likely(7, 0, 0), ThirtyNine.UNKNOWN);
        CHECKS.due("22 six are no state", nuts(6).odds(0, 5, 1), 2);
    }
}
