/** Promises 15 to 21: each sentence that names an edge, and what each call refuses. */
final class ToldEdgesTest {
    private static final Checks CHECKS = new Checks("ToldEdgesTest");
    private static final Twins EMPTY = new Twins(CHECKS, Worlds::empty);
    private static final Twins SOME = new Twins(CHECKS, Worlds::some);
    private static final Twins FULL = new Twins(CHECKS, Worlds::full);
    private static final int UNKNOWN = ThirtyNine.UNKNOWN, OUTSIDE = ThirtyNine.OUTSIDE;
    private static final int STATE = ThirtyNine.STATE, NONE = ThirtyNine.NONE;

    public static void main(String[] args) {
        toldUnknown();
        toldTenAtMost();
        claimOfNumbersOutside();
        claimOrNone();
        byOfNutsUnknown();
        byOfSetsOutside();
        byASetThatCannotBe();
        byOrder();
        canBeUnlessOneFightsBehindItsLoss();
        byCountsAsTold();
        by999AtMost();
        liesOutside();
        liesOfNothing();
        liesOfClaimsAlone();
        liesOfSevenTrueFights();
        liesOfTenFightsOfOnePair();
        liesOfLikeSets();
        mostOfNumbersOutside();
        mostFromTheFewestLiesOn();
        mostOfEighteenLies();
        whoseUnknown();
        whoseOfNoneAndOfMany();
        reachOfNutsUnknown();
        reachOfOthersOutside();
        reachFiveAtMost();
        reachOfNoOthers();
        reach62AtMost();
        reachOfWhatIsToldAbove62();
        reachOfBrokenNuts();
        CHECKS.end();
    }

    private static void toldUnknown() {
        SOME.span("15 winner", 0, 5, (x, v) -> x.told(v, 3), UNKNOWN);
        SOME.span("15 loser", 0, 5, (x, v) -> x.told(3, v), UNKNOWN);
        SOME.refuse("15 itself", UNKNOWN, (x, v) -> x.told(v, v), 0, 2, 5, 6, NONE);
        SOME.answer("15 a broken one may have won", x -> x.told(2, 4), 5);
    }

    private static void toldTenAtMost() {
        ThirtyNine x = Worlds.some();
        for (int many = 5; many <= 10; many++) {
            CHECKS.due("15 so many", x.told(0, 5), many);
        }
        CHECKS.due("15 an eleventh", x.told(0, 5), ThirtyNine.FULL);
        CHECKS.due("15 ten stay", x.count(3), 10);
        FULL.keep("15 full", y -> y.told(0, 7), ThirtyNine.FULL);
        FULL.keep("15 winner ahead of full", y -> y.told(8, 7), UNKNOWN);
        FULL.keep("15 loser ahead of full", y -> y.told(0, NONE), UNKNOWN);
        FULL.keep("15 itself ahead of full", y -> y.told(3, 3), UNKNOWN);
    }

    private static void claimOfNumbersOutside() {
        SOME.span("16 nut", 0, 5, (x, v) -> x.claim(v, 0), UNKNOWN);
        FULL.span("16 nut of eight", 0, 7, (x, v) -> x.claim(v, 0), UNKNOWN);
        SOME.span("16 count", NONE, 999, (x, v) -> x.claim(0, v), OUTSIDE);
        SOME.span("16 count where none was", NONE, 999, (x, v) -> x.claim(5, v), OUTSIDE);
        SOME.keep("16 nut ahead of count", x -> x.claim(6, 1000), UNKNOWN);
    }

    private static void claimOrNone() {
        SOME.keep("16 none was, none comes", x -> x.claim(5, NONE), NONE);
        ThirtyNine x = Worlds.some();
        CHECKS.due("16 none was", x.claim(5, 0), NONE);
        CHECKS.due("16 0 is one", x.count(4), 4);
        CHECKS.due("16 0 was", x.claim(5, 999), 0);
        CHECKS.due("16 still one", x.count(4), 4);
        CHECKS.due("16 999 was", x.claim(5, NONE), 999);
        CHECKS.due("16 none again", x.count(4), 3);
    }

    private static void byOfNutsUnknown() {
        SOME.span("17 nut, or NONE", NONE, 5, (x, v) -> x.by(0, v), UNKNOWN);
        FULL.span("17 nut of eight, or NONE", NONE, 7, (x, v) -> x.by(0, v), UNKNOWN);
    }

    private static void byOfSetsOutside() {
        for (int told = 0; told <= 10; told++) {
            int many = told;
            Twins some = new Twins(CHECKS, () -> {
                ThirtyNine x = Worlds.nuts("x+1;t", 0, 0);
                for (int i = 0; i < many; i++) {
                    x.told(i % 2, 1 - i % 2);
                }
                return x;
            });
            some.span("17 set of " + told, 0, (1 << told) - 1, (x, v) -> x.by(v, NONE), OUTSIDE);
            some.refuse("17 set of a nut, of " + told, OUTSIDE, (x, v) -> x.by(v, 1), -1, 1 << told, 1 << 30);
        }
    }

    private static void byASetThatCannotBe() {
        SOME.keep("17 it cannot be", x -> x.by(3, NONE), 0);
        SOME.keep("17 of who wins first", x -> x.by(3, 0), STATE);
        SOME.keep("17 of who fights behind its loss", x -> x.by(3, 1), STATE);
        SOME.keep("17 of one that is not in it", x -> x.by(3, 5), STATE);
    }

    private static void byOrder() {
        SOME.keep("17 unknown ahead of outside", x -> x.by(16, 6), UNKNOWN);
        SOME.keep("17 unknown ahead of outside below", x -> x.by(-1, -2), UNKNOWN);
        SOME.keep("17 unknown ahead of state", x -> x.by(3, 6), UNKNOWN);
        SOME.keep("17 outside, whatever its lower bits", x -> x.by(16 + 3, 0), OUTSIDE);
    }

    private static void canBeUnlessOneFightsBehindItsLoss() {
        ThirtyNine x = Worlds.nuts("x+1;t", 0, 0, 0, 0);
        x.told(0, 1);
        x.told(2, 3);
        x.told(2, 0);
        x.told(0, 3);
        x.told(2, 1);
        CHECKS.due("17 apart", x.by(0b00011, NONE), 1);
        CHECKS.due("17 it wins ahead of its loss", x.by(0b00101, NONE), 1);
        CHECKS.due("17 it wins behind its loss", x.by(0b01100, NONE), 0);
        CHECKS.due("17 it loses behind its loss", x.by(0b10001, NONE), 0);
        CHECKS.due("17 it loses once", x.by(0b10100, NONE), 1);
        CHECKS.due("17 all of them", x.by(0b11111, NONE), 0);
    }

    private static void byCountsAsTold() {
        SOME.answer("17 by no fight the count is as told", x -> x.by(0, 0), 1);
        SOME.answer("17 though it is more now", x -> x.about(0, 4), 10);
        SOME.answer("17 a broken one may win", x -> x.by(4, NONE), 1);
    }

    private static void by999AtMost() {
        ThirtyNine x = Worlds.nuts("x+x+x+x;t", 99, 0, 0, 0);
        x.told(0, 1);
        x.told(0, 2);
        x.told(0, 3);
        CHECKS.due("17 396", x.by(1, 0), 396);
        CHECKS.due("17 1584 is 999", x.by(3, 0), 999);
        CHECKS.due("17 999 stays", x.by(7, 0), 999);
        x.claim(0, 999);
        CHECKS.due("18 999 is no lie then", x.lies(0), 0);
        CHECKS.due("18 by all three", x.lies(1), 7);
        CHECKS.due("19 the greatest", x.most(0, 0), 999);
    }

    private static void liesOutside() {
        EMPTY.span("18 what of nothing", 0, 1, (x, v) -> x.lies(v), OUTSIDE);
        SOME.span("18 what", 0, 1, (x, v) -> x.lies(v), OUTSIDE);
        SOME.refuse("18 what else", OUTSIDE, (x, v) -> x.lies(v), 3, 256, NONE);
    }

    private static void liesOfNothing() {
        ThirtyNine x = Worlds.nuts("x+1;t", 3, 4);
        CHECKS.due("18 nothing told, nothing claimed", x.lies(0), 0);
        CHECKS.due("18 the empty set", x.lies(1), 0);
        CHECKS.due("19 its count as told", x.most(0, 0), 3);
    }

    private static void liesOfClaimsAlone() {
        ThirtyNine x = Worlds.nuts("x+1;t", 0, 1, 99);
        x.claim(0, 0);
        CHECKS.due("18 0 is as told", x.lies(0), 0);
        x.claim(1, 0);
        CHECKS.due("18 0 is not 1", x.lies(0), 1);
        x.claim(2, 999);
        CHECKS.due("18 999 is not 99", x.lies(0), 2);
        x.claim(2, 99);
        CHECKS.due("18 99 is as told", x.lies(0), 1);
        x.claim(1, NONE);
        CHECKS.due("18 no claim is no lie", x.lies(0), 0);
    }

    /** With eight nuts seven may be lost: no set that can be has more fights. */
    private static void liesOfSevenTrueFights() {
        ThirtyNine x = Worlds.nuts("x+y+1;t", 0, 0, 0, 0, 0, 0, 0, 0);
        for (int loser = 0; loser < 7; loser++) {
            x.told(loser + 1, loser);
        }
        for (int nut = 0; nut < 8; nut++) {
            x.claim(nut, nut);
        }
        CHECKS.due("18 all true", x.lies(0), 0);
        CHECKS.due("18 seven fights", x.lies(1), 127);
        CHECKS.due("17 who is left", x.by(127, 7), 7);
        x.told(7, 0);
        CHECKS.due("18 an eighth lies", x.lies(0), 1);
        CHECKS.due("20 it is that one's", x.whose(7), 1);
        CHECKS.due("20 not the seventh's", x.whose(6), 0);
        x.told(7, 0);
        x.told(7, 0);
        CHECKS.due("18 the last three lie", x.lies(0), 3);
        CHECKS.due("18 the first seven are left", x.lies(1), 127);
    }

    /** Of ten fights told of one pair nine lie, whichever is true; eight claims lie, too. */
    private static ThirtyNine tenOfOnePair() {
        ThirtyNine x = Worlds.nuts("l;t", 9, 1, 0, 0, 0, 0, 0, 0);
        for (int i = 0; i < 10; i++) {
            x.told(0, 1);
        }
        for (int nut = 0; nut < 8; nut++) {
            x.claim(nut, 500);
        }
        return x;
    }

    private static void liesOfTenFightsOfOnePair() {
        ThirtyNine x = tenOfOnePair();
        CHECKS.due("18 nine and eight", x.lies(0), 17);
        CHECKS.due("18 of least bits", x.lies(1), 1);
        for (int fight = 0; fight < 10; fight++) {
            CHECKS.due("20 in nine of ten it is not", x.whose(fight), 9);
        }
    }

    private static void liesOfLikeSets() {
        ThirtyNine x = Worlds.nuts("x+1;t", 0, 0, 0, 0);
        x.told(0, 1);
        x.told(1, 2);
        x.told(1, 3);
        x.claim(1, 2);
        // 1: two fights and the claim are out. 6: one fight alone.
        CHECKS.due("18 fewest lies ahead of all", x.lies(1), 6);
        x.claim(1, 0);
        x.claim(0, 1);
        // 1: two fights out, the claims are true. 6: one fight out, both claims false.
        CHECKS.due("18 fewest lies, though of fewer fights", x.lies(1), 1);
        x.claim(0, NONE);
        // 1: two fights out. 6: one fight out and the claim: more fights.
        CHECKS.due("18 like lies", x.lies(0), 2);
        CHECKS.due("18 most fights, though of greater bits", x.lies(1), 6);
        ThirtyNine y = Worlds.nuts("x+1;t", 0, 0, 0, 0);
        y.told(3, 2);
        y.told(0, 1);
        y.told(1, 0);
        CHECKS.due("18 like lies and fights", y.lies(0), 1);
        CHECKS.due("18 least bits: 3, not 5", y.lies(1), 3);
    }

    private static void mostOfNumbersOutside() {
        SOME.span("19 nut", 0, 5, (x, v) -> x.most(v, 9), UNKNOWN);
        FULL.span("19 nut of eight", 0, 7, (x, v) -> x.most(v, 18), UNKNOWN);
        SOME.span("19 lies", 0, 18, (x, v) -> x.most(0, v), OUTSIDE);
        FULL.span("19 lies, when full", 0, 18, (x, v) -> x.most(7, v), OUTSIDE);
        SOME.keep("19 nut ahead of lies", x -> x.most(6, 19), UNKNOWN);
    }

    private static void mostFromTheFewestLiesOn() {
        int fewest = Worlds.full().lies(0);
        CHECKS.holds("18 some lie", fewest > 0 && fewest < 18);
        for (int nut = 0; nut < 8; nut++) {
            int which = nut;
            int by = Worlds.full().by(Worlds.full().lies(1), nut);
            FULL.keep("19 no set has so few lies", x -> x.most(which, fewest - 1), NONE);
            CHECKS.holds("19 one has so many", Worlds.full().most(nut, fewest) >= by);
        }
    }

    private static void mostOfEighteenLies() {
        ThirtyNine x = tenOfOnePair();
        CHECKS.due("19 sixteen are too few", x.most(0, 16), NONE);
        CHECKS.due("19 seventeen: by one of the fights", x.most(0, 17), 1);
        CHECKS.due("19 eighteen: by no fight at all", x.most(0, 18), 9);
    }

    private static void whoseUnknown() {
        EMPTY.refuse("20 of none", UNKNOWN, (x, v) -> x.whose(v), 0, 1, NONE, Integer.MIN_VALUE, Integer.MAX_VALUE);
        SOME.span("20 fight", 0, 3, (x, v) -> x.whose(v), UNKNOWN);
        FULL.span("20 fight of ten", 0, 9, (x, v) -> x.whose(v), UNKNOWN);
        SOME.refuse("20 fight far off", UNKNOWN, (x, v) -> x.whose(v), 5, 9, 10, 32);
    }

    private static void whoseOfNoneAndOfMany() {
        ThirtyNine x = Worlds.nuts("x+1;t", 0, 0, 0);
        x.told(0, 1);
        CHECKS.due("20 no lie: in the one set", x.whose(0), 0);
        x.claim(0, 5);
        // By the fight 1, not 5; by none of them 0, not 5: one lie, or two.
        CHECKS.due("20 the claim lies by either", x.whose(0), 0);
        x.claim(0, 0);
        CHECKS.due("20 one lie by either", x.whose(0), 1);
        x.told(1, 0);
        // By no fight two lies; by the first one and the claim; by the second one: the claim is true.
        CHECKS.due("20 the first is not in the one set", x.whose(0), 1);
        CHECKS.due("20 the second is in it", x.whose(1), 0);
    }

    private static void reachOfNutsUnknown() {
        SOME.span("21 nut", 0, 5, (x, v) -> x.reach(v, 0), UNKNOWN);
        FULL.span("21 nut of eight", 0, 7, (x, v) -> x.reach(v, 8), UNKNOWN);
        SOME.keep("21 nut ahead of others", x -> x.reach(6, 64), UNKNOWN);
        SOME.keep("21 nut ahead of others below", x -> x.reach(NONE, -1), UNKNOWN);
    }

    private static void reachOfOthersOutside() {
        int[] outside = {1, 63, 64, 64 + 2, 128, -1, -2, 1 << 30, Integer.MIN_VALUE, Integer.MAX_VALUE};
        SOME.refuse("21 others of 0", OUTSIDE, (x, v) -> x.reach(0, v), outside);
        SOME.refuse("21 the last with itself", OUTSIDE, (x, v) -> x.reach(5, v), 32, 33, 63);
        SOME.span("21 all the others of 0", 0, 62, (x, v) -> x.reach(0, v), OUTSIDE);
        SOME.span("21 all the others of 5", 0, 31, (x, v) -> x.reach(5, v), OUTSIDE);
        FULL.refuse("21 a ninth", OUTSIDE, (x, v) -> x.reach(0, v), 256, 256 + 2, 512);
        FULL.refuse("21 itself, of eight", OUTSIDE, (x, v) -> x.reach(7, v), 128, 129);
        FULL.answer("21 the eighth alone", x -> x.reach(0, 128), Worlds.full().reach(0, 128));
    }

    private static void reachFiveAtMost() {
        FULL.refuse("21 six", OUTSIDE, (x, v) -> x.reach(0, v), 0b1111110, 0b11111100, 0b11101110);
        FULL.refuse("21 seven", OUTSIDE, (x, v) -> x.reach(0, v), 0b11111110);
        ThirtyNine x = Worlds.nuts("x+y;t", 1, 2, 4, 8, 16, 3, 5, 7);
        CHECKS.due("21 the first five others", x.reach(7, 0b11111), 1L << 38);
        CHECKS.due("21 the last five others", x.reach(0, 0b11111000), 1L << 40);
        CHECKS.due("21 four", x.reach(0, 0b11110), 1L << 31);
    }

    private static void reachOfNoOthers() {
        for (int count : new int[] {0, 1, 61, 62}) {
            CHECKS.due("21 as told, " + count, Worlds.nuts("x+1;t", count).reach(0, 0), 1L << count);
        }
    }

    private static void reach62AtMost() {
        for (int count : new int[] {63, 64, 98, 99}) {
            CHECKS.due("21 as told, " + count + " is 62", Worlds.nuts("x+1;t", count).reach(0, 0), 1L << 62);
        }
        CHECKS.due("21 61", Worlds.nuts("x+y;t", 60, 1).reach(0, 2), 1L << 61);
        CHECKS.due("21 62", Worlds.nuts("x+y;t", 60, 2).reach(0, 2), 1L << 62);
        CHECKS.due("21 63 is 62", Worlds.nuts("x+y;t", 60, 3).reach(0, 2), 1L << 62);
        CHECKS.due("21 396 is 62", Worlds.nuts("99+99+99+99;t", 0, 0).reach(0, 2), 1L << 62);
        CHECKS.due("21 half of what is 62 there", Worlds.nuts("h;t", 0, 50, 50).reach(0, 6), 1L << 25 | 1L << 12);
        // One of the two others comes to 99 by the other one: 62 there, whose half is 31; alone they leave 25, 24.
        ThirtyNine x = Checks.with("x+y;t", "h;t");
        x.nut(0, 1, 5, 0, 20);
        x.nut(0, 0, 5, 50, 20);
        x.nut(0, 0, 5, 49, 20);
        CHECKS.due("21 62 on its way", x.reach(0, 6), 1L << 31 | 1L << 25 | 1L << 24);
        CHECKS.due("11 but not when it beats", x.beats(1, 2), 99);
        CHECKS.due("11 whose half is more", x.beats(0, 1), 49);
    }

    /** What was told as 99 is 62 there from the first on: its half is 31, not 49. */
    private static void reachOfWhatIsToldAbove62() {
        for (int told : new int[] {61, 62, 63, 99}) {
            ThirtyNine x = Worlds.nuts("h;t", 7, told);
            CHECKS.due("21 half of a told " + told, x.reach(0, 2), 1L << Math.min(62, told) / 2);
            CHECKS.due("11 half of it when it beats", x.beats(0, 1), told / 2);
        }
        CHECKS.due("21 the greater of 7 and a told 99", Worlds.nuts("m;t", 7, 99).reach(0, 2), 1L << 62);
        CHECKS.due("21 the lesser of 7 and a told 99", Worlds.nuts("l;t", 7, 99).reach(0, 2), 1L << 7);
    }

    private static void reachOfBrokenNuts() {
        long before = Worlds.fullOfNuts().reach(3, 0b110011);
        ThirtyNine x = Worlds.fullOfNuts();
        x.beats(6, 3);
        x.beats(6, 0);
        x.beats(6, 4);
        CHECKS.due("21 counts as told, whoever is broken", x.reach(3, 0b110011), before);
    }
}
