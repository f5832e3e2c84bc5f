/** Promises 31 to 34: the image, what is counted, the digest. */
final class ImageTest {
    private static final Checks CHECKS = new Checks("ImageTest");

    public static void main(String[] args) {
        image();
        latestImage();
        emptyImage();
        count();
        digestOfNothing();
        digestOfAll();
        digestOfThePage();
        digestWhenFull();
        CHECKS.end();
    }

    private static ThirtyNine nuts(int many) {
        ThirtyNine x = Checks.with("x+y+1;t");
        for (int i = 0; i < many; i++) {
            x.nut(0, 0, 5, i, 20);
        }
        return x;
    }

    private static void image() {
        ThirtyNine x = nuts(4);
        CHECKS.due("32 none was kept", x.restore(), ThirtyNine.STATE);
        x.beats(0, 1);
        x.told(0, 1);
        x.claim(2, 7);
        CHECKS.due("31 how many", x.image(), 4);
        long before = x.digest();
        x.fight(2, 3, 5);
        x.beats(0, x.about(2, 7) == 0 ? 2 : 3);
        x.told(1, 0);
        x.claim(2, 8);
        x.claim(3, 9);
        CHECKS.holds("31 it goes on apart from the image", x.digest() != before);
        CHECKS.due("32 how many", x.restore(), 4);
        CHECKS.due("32 all as it was", x.digest(), before);
        CHECKS.due("32 count", x.about(0, 4), 2);
        CHECKS.due("32 cracks", x.about(3, 6), 0);
        CHECKS.due("32 broken", x.count(2), 1);
        CHECKS.due("32 told", x.count(3), 1);
        CHECKS.due("32 claims", x.claim(2, 1), 7);
        CHECKS.due("32 no claim", x.claim(3, 1), ThirtyNine.NONE);
        x.restore();
        CHECKS.due("32 the image stays kept", x.digest(), before);
        sinceTheImage(x);
    }

    private static void sinceTheImage(ThirtyNine x) {
        x.nut(1, 0, 5, 40, 20);
        x.nut(1, 0, 5, 50, 20);
        x.beats(4, 5);
        x.claim(4, 3);
        x.told(4, 5);
        x.told(4, 0);
        x.meeting(2);
        x.comer(0, 1, 1);
        Checks.write(x, "x;");
        CHECKS.due("32 those that came since, too", x.restore(), 6);
        CHECKS.due("32 since: count", x.about(4, 4), 91);
        CHECKS.due("32 since: broken", x.about(5, 7), 1);
        CHECKS.due("32 since: claim", x.claim(4, 3), 3);
        CHECKS.due("32 told fights are those of the image", x.count(3), 1);
        CHECKS.due("32 meetings are not in it", x.meeting(0), 2);
        CHECKS.due("32 comers are not in it", x.count(5), 1);
        CHECKS.due("32 the page is not in it", x.count(6), 2);
    }

    private static void latestImage() {
        ThirtyNine x = nuts(3);
        x.image();
        x.claim(0, 1);
        x.told(0, 1);
        x.image();
        x.claim(0, 2);
        x.restore();
        CHECKS.due("31 the latest is kept", x.claim(0, 5), 1);
        CHECKS.due("31 with its told fights", x.count(3), 1);
    }

    private static void emptyImage() {
        ThirtyNine x = new ThirtyNine();
        CHECKS.due("31 no nuts", x.image(), 0);
        CHECKS.due("32 an image of nothing", x.restore(), 0);
        Checks.found(x, "x;t");
        x.nut(0, 0, 5, 1, 20);
        x.nut(0, 0, 5, 1, 20);
        x.told(0, 1);
        x.claim(0, 3);
        CHECKS.due("32 how many now", x.restore(), 2);
        CHECKS.due("32 no told fights", x.count(3), 0);
        CHECKS.due("32 the claim came since", x.count(4), 1);
    }

    private static void count() {
        ThirtyNine x = nuts(5);
        Checks.found(x, "x;o");
        Checks.write(x, "abcdef");
        x.beats(0, 1);
        x.told(0, 1);
        x.told(0, 1);
        x.told(0, 2);
        x.claim(0, 0);
        x.claim(1, 0);
        x.claim(2, 0);
        x.claim(3, 0);
        for (int i = 0; i < 7; i++) {
            x.comer(0, i, i);
        }
        x.beats(2, 0);
        int[] want = {2, 5, 2, 3, 4, 7, 6};
        for (int what = 0; what <= 6; what++) {
            CHECKS.due("33 count(" + what + ")", x.count(what), want[what]);
        }
        CHECKS.due("33 below", x.count(-1), ThirtyNine.OUTSIDE);
        CHECKS.due("33 above", x.count(7), ThirtyNine.OUTSIDE);
    }

    private static long mixed(long... numbers) {
        long h = 409;
        for (long number : numbers) {
            h = 31 * h + number;
        }
        return h;
    }

    private static void digestOfNothing() {
        CHECKS.due("34 nothing", new ThirtyNine().digest(), mixed(0, 0, 0, 0, 0, 0, 0, 0, 0, 0));
    }

    private static void digestOfAll() {
        ThirtyNine x = Checks.with("x+y;t", "l+9;n");
        x.meeting(3);
        x.nut(3, 1, 4, 10, 30);
        x.nut(0, 0, 2, 5, 40);
        x.claim(1, 5);
        x.told(0, 1);
        x.told(1, 0);
        x.comer(1, 20, 9);
        Checks.write(x, "x;");
        // Told fights alone: one lie by either; with the claim the first set has it as few.
        long want = mixed(7, 9, 12, 11, 3,
            3, 1, 4, 7, 10, 30, 0, 0, -1,
            0, 0, 2, 2, 5, 40, 0, 0, 5,
            0, 1, 1, 0,
            1, 1,
            1, 20, 9,
            1, 1,
            'x', ';',
            2, 2, 0, 2, 1, 1, 2);
        // By "l" and 9 the first comes to 19 in 9 of ten; the second, by the less of 25 and 14, to 14.
        CHECKS.due("34 all", x.digest(), want);
    }

    /** As many of everything as there may be, then the comers and the page gone: by the model. */
    private static void digestWhenFull() {
        ThirtyNine x = new ThirtyNine();
        Model model = new Model();
        for (String text : new String[] {"x+y;t", "l+9;n", "m+h;o"}) {
            x.letters(Checks.packed(text));
            model.letters(Checks.packed(text));
            x.school();
            model.school();
        }
        for (int i = 0; i < 10; i++) {
            x.nut(i % 5, i % 3, 1 + i % 9, i, 20 + i);
            model.nut(i % 5, i % 3, 1 + i % 9, i, 20 + i);
            x.claim(i, i + 3);
            model.claim(i, i + 3);
        }
        for (int i = 0; i < 11; i++) {
            x.told(i % 8, (3 * i + 1) % 8);
            model.told(i % 8, (3 * i + 1) % 8);
            x.comer(i % 3, i, i);
            model.comer(i % 3, i, i);
            x.letters('a' + i);
            model.letters('a' + i);
        }
        CHECKS.due("34 full", x.digest(), model.digest());
        CHECKS.due("31 full", x.image(), 8);
        CHECKS.due("32 full", x.restore(), 8);
        CHECKS.due("34 full, gone on from the image", x.digest(), model.digest());
        x.gone();
        model.gone();
        x.blank();
        model.blank();
        CHECKS.due("34 comers and letters gone", x.digest(), model.digest());
    }

    private static void digestOfThePage() {
        ThirtyNine x = new ThirtyNine();
        ThirtyNine y = new ThirtyNine();
        x.letters(1);
        y.letters(2);
        CHECKS.holds("34 the letters are in it", x.digest() != y.digest());
        CHECKS.due("34 it changes nothing", x.digest(), x.digest());
    }
}
