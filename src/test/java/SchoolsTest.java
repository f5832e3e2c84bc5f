/** Promises 1 to 7: a new object, the page, schools, meetings. */
final class SchoolsTest {
    private static final Checks CHECKS = new Checks("SchoolsTest");

    public static void main(String[] args) {
        newObject();
        letters();
        blank();
        fault();
        school();
        counts();
        meeting();
        CHECKS.end();
    }

    private static void newObject() {
        ThirtyNine x = new ThirtyNine();
        for (int what = 0; what <= 6; what++) {
            CHECKS.due("1 count(" + what + ")", x.count(what), 0);
        }
        CHECKS.due("1 counts", x.counts(0, 0, 0), ThirtyNine.UNKNOWN);
        CHECKS.due("1 about", x.about(0, 0), ThirtyNine.UNKNOWN);
        CHECKS.due("1 restore", x.restore(), ThirtyNine.STATE);
        CHECKS.due("1 meeting", x.meeting(0), 0);
        CHECKS.due("1 lies(0)", x.lies(0), 0);
        CHECKS.due("1 lies(1)", x.lies(1), 0);
        CHECKS.due("1 by(0, NONE)", x.by(0, ThirtyNine.NONE), 1);
    }

    private static void letters() {
        ThirtyNine x = new ThirtyNine();
        CHECKS.due("2 none", x.letters(0), 0);
        CHECKS.due("2 three", x.letters(Checks.packed("abc")), 3);
        CHECKS.due("2 126 is a letter", x.letters(126), 4);
        CHECKS.due("2 127 is none", x.letters(127), ThirtyNine.OUTSIDE);
        CHECKS.due("2 127 behind others", x.letters(0x7f61L), ThirtyNine.OUTSIDE);
        CHECKS.due("2 the highest byte", x.letters(Long.MIN_VALUE), ThirtyNine.OUTSIDE);
        CHECKS.due("2 all bits", x.letters(-1), ThirtyNine.OUTSIDE);
        CHECKS.due("2 behind a 0", x.letters(0x610061L), ThirtyNine.OUTSIDE);
        CHECKS.due("2 behind a 0 at first", x.letters(0x6100L), ThirtyNine.OUTSIDE);
        CHECKS.due("2 eight", x.letters(Checks.packed("12345678")), 12);
        CHECKS.due("2 to twenty", x.letters(Checks.packed("12345678")), 20);
        CHECKS.due("2 no more at twenty", x.letters(0), 20);
        CHECKS.due("2 full", x.letters(1), ThirtyNine.FULL);
        CHECKS.due("2 outside ahead of full", x.letters(0x7f6161L), ThirtyNine.OUTSIDE);
        CHECKS.due("2 refusals change nothing", x.count(6), 20);
        ThirtyNine y = new ThirtyNine();
        Checks.write(y, "123456789012345678");
        CHECKS.due("2 full as a whole", y.letters(Checks.packed("abc")), ThirtyNine.FULL);
        CHECKS.due("2 none of them came", y.count(6), 18);
    }

    private static void blank() {
        ThirtyNine x = new ThirtyNine();
        CHECKS.due("3 empty", x.blank(), 0);
        Checks.write(x, "x+y");
        CHECKS.due("3 three", x.blank(), 3);
        CHECKS.due("3 gone", x.count(6), 0);
        CHECKS.due("3 gone already", x.blank(), 0);
        CHECKS.due("3 letters come at its start", Checks.found(x, "x;t"), 0);
    }

    private static void fault() {
        String[] whole = {"", "x", "x+", "x+y+m+l;t", "h;o", "0;n", "99+1", "9", "10+0+7+x;", "99+98+97+96;t"};
        for (String text : whole) {
            faultAt(text, text.length());
        }
        faultAt("a", 0);
        faultAt("+x", 0);
        faultAt(";t", 0);
        faultAt("xx;t", 1);
        faultAt("x++y;t", 2);
        faultAt("x+;t", 2);
        faultAt("00;t", 1);
        faultAt("07;t", 1);
        faultAt("100;t", 2);
        faultAt("1x;t", 1);
        faultAt("x1;t", 1);
        faultAt("x+y+m+l+h;t", 7);
        faultAt("x;x", 2);
        faultAt("x;tt", 3);
        faultAt("x;t;", 3);
        faultAt("X;t", 0);
        faultAt("x t", 1);
        faultAt("x-y", 1);
        faultAt("x;T", 2);
    }

    private static void faultAt(String text, int place) {
        ThirtyNine x = new ThirtyNine();
        Checks.write(x, text);
        CHECKS.due("4 fault of " + text, x.fault(), place);
        CHECKS.due("4 it stays on the page", x.count(6), text.length());
    }

    private static void school() {
        ThirtyNine x = new ThirtyNine();
        CHECKS.due("5 empty page", x.school(), ThirtyNine.STATE);
        String[] none = {"x", "x+y", "x+y;", "x;q", "x;tt", "x+y+m+l+h;t", "12"};
        for (String text : none) {
            CHECKS.due("5 " + text, Checks.found(x, text), ThirtyNine.STATE);
            CHECKS.due("5 the page stays", x.blank(), text.length());
        }
        CHECKS.due("5 first", Checks.found(x, "x+1;t"), 0);
        CHECKS.due("5 the page is empty then", x.count(6), 0);
        CHECKS.due("5 second", Checks.found(x, "99+98+97+96;o"), 1);
        CHECKS.due("5 third, like the first", Checks.found(x, "x+1;n"), 2);
        CHECKS.due("5 full", Checks.found(x, "x;t"), ThirtyNine.FULL);
        CHECKS.due("5 the page stays when full", x.count(6), 3);
        Checks.write(x, "t");
        CHECKS.due("5 none ahead of full", x.school(), ThirtyNine.STATE);
        CHECKS.due("5 three", x.count(0), 3);
    }

    private static void counts() {
        countsBy("x;t", 7, 9, 7);
        countsBy("y;t", 7, 9, 9);
        countsBy("m;t", 7, 9, 9);
        countsBy("m;t", 9, 7, 9);
        countsBy("l;t", 7, 9, 7);
        countsBy("l;t", 9, 7, 7);
        countsBy("h;t", 7, 9, 4);
        countsBy("h;t", 7, 8, 4);
        countsBy("h;t", 7, 1, 0);
        countsBy("0;t", 7, 9, 0);
        countsBy("9;t", 7, 9, 9);
        countsBy("10;t", 7, 9, 10);
        countsBy("99+1+20+3;t", 7, 9, 123);
        countsBy("x+x+y+1;t", 7, 9, 24);
        countsBy("x+y;t", 500, 499, 999);
        countsBy("x+y;t", 500, 500, 999);
        countsBy("x+y+m+l;t", 999, 999, 999);
        ThirtyNine x = Checks.with("x;t");
        CHECKS.due("6 unknown", x.counts(1, 0, 0), ThirtyNine.UNKNOWN);
        CHECKS.due("6 unknown below", x.counts(-1, -1, 0), ThirtyNine.UNKNOWN);
        CHECKS.due("6 x below", x.counts(0, -1, 0), ThirtyNine.OUTSIDE);
        CHECKS.due("6 x above", x.counts(0, 1000, 0), ThirtyNine.OUTSIDE);
        CHECKS.due("6 y below", x.counts(0, 0, -1), ThirtyNine.OUTSIDE);
        CHECKS.due("6 y above", x.counts(0, 0, 1000), ThirtyNine.OUTSIDE);
        CHECKS.due("6 at the greatest", x.counts(0, 999, 999), 999);
        CHECKS.due("6 at the least", x.counts(0, 0, 0), 0);
        ThirtyNine full = Checks.with("x;t", "y;t", "7;t");
        CHECKS.due("6 the third", full.counts(2, 1, 2), 7);
        CHECKS.due("6 unknown behind the third", full.counts(3, 0, 0), ThirtyNine.UNKNOWN);
        CHECKS.due("6 unknown far behind", full.counts(Integer.MAX_VALUE, 0, 0), ThirtyNine.UNKNOWN);
    }

    private static void countsBy(String text, int x, int y, int want) {
        CHECKS.due("6 " + text + " of " + x + ", " + y, Checks.with(text).counts(0, x, y), want);
    }

    private static void meeting() {
        ThirtyNine x = new ThirtyNine();
        CHECKS.due("7 below", x.meeting(-1), ThirtyNine.OUTSIDE);
        CHECKS.due("7 above", x.meeting(4), ThirtyNine.OUTSIDE);
        CHECKS.due("7 at first 0", x.meeting(3), 0);
        CHECKS.due("7 then 3", x.meeting(1), 3);
        CHECKS.due("7 refusals change nothing", x.meeting(99), ThirtyNine.OUTSIDE);
        CHECKS.due("7 then 1", x.meeting(0), 1);
        int[] unlike = {11, 12, 12, 11};
        int[] unlikeOther = {22, 21, 22, 21};
        for (int how = 0; how < 4; how++) {
            CHECKS.due("7 unlike " + how, won(how, 0, 1), unlike[how]);
            CHECKS.due("7 unlike the other way " + how, won(how, 1, 0), unlikeOther[how]);
            CHECKS.due("7 like " + how, won(how, 0, 0), 11);
        }
    }

    /** Who wins has 10, who loses 1: of the one school 11, of the other 12; or 20 and 1. */
    private static int won(int how, int winner, int loser) {
        ThirtyNine x = Checks.with("x+y;t", "x+2;t");
        x.nut(0, winner, 5, winner == 0 ? 10 : 20, 10);
        x.nut(0, loser, 5, 1, 10);
        x.meeting(how);
        return x.beats(0, 1);
    }
}
