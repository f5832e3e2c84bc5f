import java.math.BigInteger;
import java.util.ArrayList;
import java.util.List;

/** Promises 31 to 34, and how long an object is used: each sentence that names an edge, and what each call refuses. */
final class ImageEdgesTest {
    private static final Checks CHECKS = new Checks("ImageEdgesTest");
    private static final Twins EMPTY = new Twins(CHECKS, Worlds::empty);
    private static final Twins SOME = new Twins(CHECKS, Worlds::some);
    private static final Twins FULL = new Twins(CHECKS, Worlds::full);
    private static final int NONE = ThirtyNine.NONE, STATE = ThirtyNine.STATE;

    public static void main(String[] args) {
        imageOfNoneAndOfAll();
        imageIsOneTheLatest();
        restoreOfNoImage();
        restoreOfAnEmptyImage();
        restoreOfEachThingKept();
        restoreOfToldFightsFromNoneAndFromTen();
        restoreOfClaimsFromNoneAndFromAll();
        restoreLeavesNutsThatCameSince();
        restoreLeavesWhatIsNotKept();
        restoreAgainAndAgain();
        countOutside();
        countOfNoneAndOfAll();
        digestOfNone();
        digestGoesRound();
        digestOfTheLeastAndTheGreatestLetter();
        askingChangesNothing();
        fiveHundredAndTwelveCalls();
        CHECKS.end();
    }

    private static void imageOfNoneAndOfAll() {
        EMPTY.answer("31 none", x -> x.image(), 0);
        SOME.answer("31 six", x -> x.image(), 6);
        FULL.answer("31 eight", x -> x.image(), 8);
        ThirtyNine x = Worlds.full();
        long before = x.digest();
        x.image();
        CHECKS.due("31 nothing else comes of it", x.digest(), before);
        CHECKS.due("32 at once", x.restore(), 8);
        CHECKS.due("32 nothing comes of it then", x.digest(), before);
    }

    private static void imageIsOneTheLatest() {
        ThirtyNine x = Worlds.nuts("x+1;t", 1, 2, 3);
        x.image();
        x.beats(0, 1);
        x.image();
        x.beats(0, 2);
        x.restore();
        CHECKS.due("31 the count of the latest", x.about(0, 4), 2);
        CHECKS.due("31 who is broken in the latest", x.count(2), 1);
        x.restore();
        CHECKS.due("31 the one ahead of it is gone", x.about(0, 4), 2);
    }

    private static void restoreOfNoImage() {
        EMPTY.keep("32 of nothing", x -> x.restore(), STATE);
        Twins noImage = new Twins(CHECKS, ImageEdgesTest::withoutImage);
        noImage.keep("32 none was kept", x -> x.restore(), STATE);
    }

    private static ThirtyNine withoutImage() {
        ThirtyNine x = Worlds.fullOfNuts();
        x.told(0, 1);
        x.claim(3, 4);
        x.fight(6, 4, 40);
        x.comer(0, 1, 2);
        x.letters('x');
        return x;
    }

    private static void restoreOfAnEmptyImage() {
        ThirtyNine x = new ThirtyNine();
        x.image();
        CHECKS.due("32 no nuts", x.restore(), 0);
        Checks.found(x, "x+1;t");
        for (int i = 0; i < 8; i++) {
            x.nut(0, 0, 5, i, 20);
        }
        x.beats(0, 1);
        x.claim(2, 3);
        x.told(4, 5);
        CHECKS.due("32 eight that came since", x.restore(), 8);
        CHECKS.due("32 they stay as they are: count", x.about(0, 4), 1);
        CHECKS.due("32 broken", x.about(1, 7), 1);
        CHECKS.due("32 claim", x.claim(2, 3), 3);
        CHECKS.due("32 told fights there were none", x.count(3), 0);
    }

    private static void restoreOfEachThingKept() {
        ThirtyNine x = Worlds.full();
        CHECKS.due("31 cracks since", x.about(6, 6), 3);
        CHECKS.due("31 broken since", x.about(4, 7), 1);
        x.restore();
        CHECKS.due("32 no cracks", x.about(6, 6), 0);
        CHECKS.due("32 none on the broken one", x.about(4, 6), 0);
        CHECKS.due("32 whole again", x.about(4, 7), 0);
        CHECKS.due("32 broken ahead of the image stays so", x.about(5, 7), 1);
        CHECKS.due("32 count of who won since", x.about(6, 4), 18);
        CHECKS.due("32 count of who won ahead of it", x.about(1, 4), 17);
        CHECKS.due("32 claim", x.claim(2, NONE), 6);
        CHECKS.due("12 it may fight again", x.fight(6, 4, 40), 6);
    }

    private static void restoreOfToldFightsFromNoneAndFromTen() {
        ThirtyNine x = Worlds.nuts("x+1;t", 0, 0, 0);
        x.image();
        for (int i = 0; i < 10; i++) {
            x.told(0, 1);
        }
        x.restore();
        CHECKS.due("32 none are left", x.count(3), 0);
        CHECKS.due("17 no set but the empty one", x.by(1, NONE), ThirtyNine.OUTSIDE);
        CHECKS.due("20 no told fight", x.whose(0), ThirtyNine.UNKNOWN);
        for (int i = 1; i <= 10; i++) {
            CHECKS.due("15 there is room again", x.told(2, 1), i);
        }
        x.image();
        CHECKS.due("15 full", x.told(0, 1), ThirtyNine.FULL);
        x.restore();
        CHECKS.due("32 ten", x.count(3), 10);
        CHECKS.due("32 those of the image", x.by(512, 2), 1);
        CHECKS.due("15 still full", x.told(0, 1), ThirtyNine.FULL);
    }

    private static void restoreOfClaimsFromNoneAndFromAll() {
        ThirtyNine x = Worlds.fullOfNuts();
        x.image();
        for (int nut = 0; nut < 8; nut++) {
            x.claim(nut, 0);
        }
        x.restore();
        CHECKS.due("32 no claims", x.count(4), 0);
        for (int nut = 0; nut < 8; nut++) {
            x.claim(nut, nut % 2 == 0 ? 0 : 999);
        }
        x.image();
        for (int nut = 0; nut < 8; nut++) {
            x.claim(nut, NONE);
        }
        CHECKS.due("16 no claims", x.count(4), 0);
        x.restore();
        CHECKS.due("32 all claims", x.count(4), 8);
        CHECKS.due("32 0", x.claim(6, 5), 0);
        CHECKS.due("32 999", x.claim(7, 5), 999);
    }

    private static void restoreLeavesNutsThatCameSince() {
        ThirtyNine x = Worlds.some();
        x.nut(1, 1, 9, 50, 60);
        x.nut(3, 0, 1, 40, 70);
        x.fight(7, 6, 11);
        int left = x.about(6, 7) == 0 ? 6 : 7;
        List<Integer> before = aboutBoth(x);
        x.claim(left, 5);
        x.beats(left, 0);
        int count = x.about(left, 4);
        CHECKS.due("32 all eight", x.restore(), 8);
        CHECKS.due("32 its count now, not as it was", x.about(left, 4), count);
        CHECKS.due("32 whom it beat is whole again", x.about(0, 7), 0);
        CHECKS.due("32 its claim", x.claim(left, NONE), 5);
        List<Integer> then = aboutBoth(x);
        int place = (left - 6) * 8 + 4;
        before.set(place, count);
        CHECKS.holds("32 all else of them", then.equals(before));
    }

    private static List<Integer> aboutBoth(ThirtyNine x) {
        List<Integer> all = new ArrayList<>();
        for (int nut = 6; nut <= 7; nut++) {
            for (int what = 0; what <= 7; what++) {
                all.add(x.about(nut, what));
            }
        }
        return all;
    }

    private static void restoreLeavesWhatIsNotKept() {
        ThirtyNine x = Worlds.some();
        x.blank();
        CHECKS.due("5 a school since", Checks.found(x, "7;o"), 2);
        x.meeting(1);
        x.gone();
        x.comer(2, 99, 10);
        Checks.write(x, "abcdefghijklmnopqrst");
        x.restore();
        CHECKS.due("32 schools", x.counts(2, 0, 0), 7);
        CHECKS.due("32 meetings", x.meeting(0), 1);
        CHECKS.due("32 comers", x.count(5), 1);
        CHECKS.due("32 the page", x.count(6), 20);
    }

    private static void restoreAgainAndAgain() {
        ThirtyNine x = Worlds.full();
        x.restore();
        long first = x.digest();
        x.beats(0, 1);
        x.claim(7, NONE);
        x.restore();
        CHECKS.due("32 a second time", x.digest(), first);
        x.fight(2, 3, 9);
        x.restore();
        CHECKS.due("32 a third time", x.digest(), first);
    }

    private static void countOutside() {
        EMPTY.span("33 what of nothing", 0, 6, (x, v) -> x.count(v), ThirtyNine.OUTSIDE);
        FULL.span("33 what", 0, 6, (x, v) -> x.count(v), ThirtyNine.OUTSIDE);
    }

    private static void countOfNoneAndOfAll() {
        int[] some = {2, 6, 2, 4, 3, 3, 4};
        int[] most = {3, 8, 2, 10, 8, 8, 20};
        for (int what = 0; what <= 6; what++) {
            int counted = what;
            EMPTY.keep("33 none of " + what, x -> x.count(counted), 0);
            SOME.keep("33 some of " + what, x -> x.count(counted), some[what]);
            FULL.keep("33 all of " + what, x -> x.count(counted), most[what]);
        }
    }

    private static void digestOfNone() {
        // How meetings count, the fewest lies and their set, and seven counts: ten times 31, and nothing more.
        long h = 409;
        for (int i = 0; i < 10; i++) {
            h *= 31;
        }
        EMPTY.keep("34 of nothing", x -> x.digest(), h);
    }

    /** In wide numbers, from what other calls tell; what is above 64 bits is cut off at last. */
    private static void digestGoesRound() {
        BigInteger some = wideDigest(Worlds.some(), Worlds.SOME_TOLD, Worlds.SOME_COMERS, Worlds.SOME_PAGE);
        BigInteger full = wideDigest(Worlds.full(), Worlds.FULL_TOLD, Worlds.FULL_COMERS, Worlds.FULL_PAGE);
        CHECKS.holds("34 far above 64 bits", some.bitLength() > 128 && full.bitLength() > 256);
        SOME.keep("34 of some", x -> x.digest(), some.longValue());
        FULL.keep("34 of all", x -> x.digest(), full.longValue());
    }

    private static BigInteger wideDigest(ThirtyNine x, int[][] told, int[][] comers, String page) {
        List<Integer> numbers = new ArrayList<>();
        for (int school = 0; school < x.count(0); school++) {
            numbers.add(x.counts(school, 3, 4));
            numbers.add(x.counts(school, 7, 2));
        }
        int how = x.meeting(0);
        x.meeting(how);
        numbers.add(how);
        for (int nut = 0; nut < x.count(1); nut++) {
            addNut(numbers, x, nut);
        }
        addRows(numbers, told);
        numbers.add(x.lies(0));
        numbers.add(x.lies(1));
        addRows(numbers, comers);
        for (int nut = 0; nut < x.count(1); nut++) {
            numbers.add(x.season(nut));
        }
        page.chars().forEach(numbers::add);
        for (int what = 0; what <= 6; what++) {
            numbers.add(x.count(what));
        }
        return mixed(numbers);
    }

    private static void addNut(List<Integer> numbers, ThirtyNine x, int nut) {
        for (int what = 0; what <= 7; what++) {
            numbers.add(x.about(nut, what));
        }
        int claim = x.claim(nut, NONE);
        x.claim(nut, claim);
        numbers.add(claim);
    }

    private static void addRows(List<Integer> numbers, int[][] rows) {
        for (int[] row : rows) {
            for (int number : row) {
                numbers.add(number);
            }
        }
    }

    private static BigInteger mixed(List<Integer> numbers) {
        BigInteger h = BigInteger.valueOf(409);
        for (int number : numbers) {
            h = h.multiply(BigInteger.valueOf(31)).add(BigInteger.valueOf(number));
        }
        return h;
    }

    private static void digestOfTheLeastAndTheGreatestLetter() {
        for (int letter : new int[] {1, 126}) {
            ThirtyNine x = new ThirtyNine();
            x.letters(letter);
            CHECKS.due("34 a page of " + letter, x.digest(), mixed(List.of(0, 0, 0, letter, 0, 0, 0, 0, 0, 0, 1)).longValue());
        }
    }

    /** Calls that only tell something leave all as it is, whatever is asked. */
    private static void askingChangesNothing() {
        ThirtyNine asked = Worlds.some();
        SOME.keep("6 counts", x -> x.counts(1, 5, 6), asked.counts(1, 5, 6));
        SOME.keep("17 by", x -> x.by(5, 0), asked.by(5, 0));
        SOME.keep("18 lies", x -> x.lies(1), asked.lies(1));
        SOME.keep("19 most", x -> x.most(3, 7), asked.most(3, 7));
        SOME.keep("20 whose", x -> x.whose(1), asked.whose(1));
        SOME.keep("21 reach", x -> x.reach(0, 62), asked.reach(0, 62));
        SOME.keep("22 odds", x -> x.odds(0, 1, 0), asked.odds(0, 1, 0));
        SOME.keep("23 likely", x -> x.likely(0, 1, 1), asked.likely(0, 1, 1));
        SOME.keep("26 worth", x -> x.worth(0, 7, 0), asked.worth(0, 7, 0));
        SOME.keep("27 season", x -> x.season(3), asked.season(3));
        SOME.keep("28 tree", x -> x.tree(0, 1, 3, 5, 2, 0), asked.tree(0, 1, 3, 5, 2, 0));
        SOME.keep("29 last", x -> x.last(0, 1, 3, 5), asked.last(0, 1, 3, 5));
        SOME.keep("34 digest", x -> x.digest(), asked.digest());
    }

    /** The dearest calls over and over: the last call that an object is used for answers as the first one did. */
    private static void fiveHundredAndTwelveCalls() {
        ThirtyNine x = Worlds.fullOfNuts();
        int calls = 3 * 3 + 8;
        for (int i = 0; i < 10; i++) {
            x.told(Worlds.FULL_TOLD[i][0], Worlds.FULL_TOLD[i][1]);
            calls++;
        }
        long digest = x.digest();
        long reach = x.reach(0, 0b11111000);
        calls += 2;
        for (; calls + 4 < 512; calls += 4) {
            CHECKS.due("34 digest, call " + calls, x.digest(), digest);
            CHECKS.due("21 reach", x.reach(0, 0b11111000), reach);
            CHECKS.due("12 itself", x.fight(0, 0, calls), ThirtyNine.UNKNOWN);
            CHECKS.due("32 none was kept", x.restore(), STATE);
        }
        for (; calls < 511; calls++) {
            x.whose(9);
        }
        CHECKS.due("34 digest, the last call", x.digest(), digest);
    }
}
