import java.math.BigInteger;

/** A fight written down a second time, in wide numbers, from the words of the document. */
final class Struck {
    private static final BigInteger TIMES = BigInteger.valueOf(1103515245);
    private static final BigInteger MORE = BigInteger.valueOf(12345);
    private static final BigInteger WRAP = BigInteger.ONE.shiftLeft(31);

    private final int[] hard = new int[8];
    private final char[] tangles = new char[8];
    private BigInteger seed;
    final int[] cracks = new int[8];
    int winner;
    int strikes;
    int tangled;
    int strikesBehindFirst;

    /** A nut as it is now, with its school's text, which ends with its letter for tangles. */
    void seat(int nut, int itsHard, int itsCracks, String school) {
        hard[nut] = itsHard;
        cracks[nut] = itsCracks;
        tangles[nut] = school.charAt(school.length() - 1);
    }

    private int draw(int d) {
        seed = seed.multiply(TIMES).add(MORE).mod(WRAP);
        return seed.divide(BigInteger.valueOf(65536)).mod(BigInteger.valueOf(d)).intValue();
    }

    long seedThen() {
        return seed.longValue();
    }

    void follow(int a, int b, int firstSeed) {
        seed = BigInteger.valueOf(firstSeed);
        winner = ThirtyNine.NONE;
        strikes = 0;
        tangled = 0;
        int striker = a;
        while (strikes < 50 && winner == ThirtyNine.NONE) {
            strikes++;
            striker = strike(striker, a + b - striker);
            if (strikes == 1) {
                strikesBehindFirst = striker;
            }
        }
    }

    /** Who strikes next. */
    private int strike(int striker, int struck) {
        if (draw(10) < 2) {
            tangled++;
            char letter = tangles[striker];
            return letter == 't' ? striker : letter == 'o' ? struck : Math.min(striker, struck);
        }
        int chance = 15 + 5 * hard[striker] - 5 * hard[struck] + 4 * cracks[struck];
        chance = chance < 1 ? 1 : chance > 95 ? 95 : chance;
        if (draw(100) < chance) {
            winner = striker;
        } else {
            cracks[struck]++;
        }
        return struck;
    }
}
