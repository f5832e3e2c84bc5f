/** Promises 1 to 7: each sentence that names an edge, and what each call refuses. */
final class SchoolEdgesTest {
    private static final Checks CHECKS = new Checks("SchoolEdgesTest");
    private static final Twins EMPTY = new Twins(CHECKS, Worlds::empty);
    private static final Twins SOME = new Twins(CHECKS, Worlds::some);
    private static final Twins FULL = new Twins(CHECKS, Worlds::full);
    private static final int UNKNOWN = ThirtyNine.UNKNOWN, OUTSIDE = ThirtyNine.OUTSIDE;
    private static final int STATE = ThirtyNine.STATE, NONE = ThirtyNine.NONE;
    private static final String TERMS = "xymlh0123456789", DIGITS = "0123456789";

    public static void main(String[] args) {
        newObjectHasNoSchoolsAndNoNuts();
        newObjectAnswersOfNothing();
        objectsShareNothing();
        lettersUpToEight();
        lettersLowestByteFirst();
        letterAbove126();
        letterBehindZero();
        lettersAboveTwenty();
        lettersOutsideAheadOfFull();
        blankOfEmptyAndOfFull();
        faultBehindEachLetter();
        faultOfEmptyAndOfFull();
        faultAndRefusedSchoolLeaveNothingBehind();
        schoolOfTooFewLetters();
        schoolOfTooManyLetters();
        schoolsThreeAtMost();
        schoolStateAheadOfFull();
        pageIsEmptyThen();
        termsOneToFour();
        numbersUpTo99();
        countsOfNumbersOutside();
        countsOrder();
        counts999AtMost();
        countsHalfRoundedDown();
        countsOfLikeNumbers();
        meetingOutside();
        meetingAtFirstByWhoWins();
        meetingOfLikeCounts();
        CHECKS.end();
    }

    private static void newObjectHasNoSchoolsAndNoNuts() {
        EMPTY.keep("1 counts", x -> x.counts(0, 0, 0), UNKNOWN);
        EMPTY.keep("1 nut", x -> x.nut(0, 0, 1, 0, 1), UNKNOWN);
        EMPTY.keep("1 as", x -> x.as(0, 0), UNKNOWN);
        EMPTY.keep("1 about", x -> x.about(0, 0), UNKNOWN);
        EMPTY.keep("1 beats", x -> x.beats(0, 1), UNKNOWN);
        EMPTY.keep("1 fight", x -> x.fight(0, 1, 0), UNKNOWN);
        EMPTY.keep("1 would", x -> x.would(0, 1, 0, 0), UNKNOWN);
        EMPTY.keep("1 scales", x -> x.scales(0, 1), UNKNOWN);
        EMPTY.keep("1 told", x -> x.told(0, 1), UNKNOWN);
        EMPTY.keep("1 claim", x -> x.claim(0, 0), UNKNOWN);
        EMPTY.keep("1 by", x -> x.by(0, 0), UNKNOWN);
        EMPTY.keep("1 most", x -> x.most(0, 0), UNKNOWN);
        EMPTY.keep("1 whose", x -> x.whose(0), UNKNOWN);
        EMPTY.keep("1 reach", x -> x.reach(0, 0), UNKNOWN);
        EMPTY.keep("1 odds", x -> x.odds(0, 1, 0), UNKNOWN);
        EMPTY.keep("1 likely", x -> x.likely(0, 1, 0), UNKNOWN);
        EMPTY.keep("1 comer", x -> x.comer(0, 0, 0), UNKNOWN);
        EMPTY.keep("1 worth", x -> x.worth(0, 0, 0), UNKNOWN);
        EMPTY.keep("1 season", x -> x.season(0), UNKNOWN);
        EMPTY.keep("1 tree", x -> x.tree(0, 1, 2, 3, 0, 0), UNKNOWN);
        EMPTY.keep("1 last", x -> x.last(0, 1, 2, 3), UNKNOWN);
    }

    private static void newObjectAnswersOfNothing() {
        EMPTY.keep("1 letters", x -> x.letters(0), 0);
        EMPTY.keep("1 blank", x -> x.blank(), 0);
        EMPTY.keep("1 fault", x -> x.fault(), 0);
        EMPTY.keep("1 school", x -> x.school(), STATE);
        EMPTY.keep("1 meeting", x -> x.meeting(0), 0);
        EMPTY.keep("1 by of NONE", x -> x.by(0, NONE), 1);
        EMPTY.keep("1 by of a fight that is not there", x -> x.by(1, NONE), OUTSIDE);
        EMPTY.keep("1 lies", x -> x.lies(0), 0);
        EMPTY.keep("1 their set", x -> x.lies(1), 0);
        EMPTY.keep("1 gone", x -> x.gone(), 0);
        EMPTY.keep("1 run", x -> x.run(1, 5, 1), 2);
        EMPTY.keep("1 restore", x -> x.restore(), STATE);
        EMPTY.answer("1 image", x -> x.image(), 0);
        for (int what = 0; what <= 6; what++) {
            int counted = what;
            EMPTY.keep("1 count " + what, x -> x.count(counted), 0);
        }
    }

    private static void objectsShareNothing() {
        ThirtyNine before = new ThirtyNine();
        Worlds.full();
        CHECKS.due("1 one made ahead of another", before.digest(), new ThirtyNine().digest());
        CHECKS.holds("1 it goes on alone", Later.answers(before).equals(Later.answers(new ThirtyNine())));
    }

    private static void lettersUpToEight() {
        for (int many = 0; many <= 8; many++) {
            long w = Checks.packed("x+y+m+l;".substring(0, many));
            EMPTY.answer("2 so many letters at once: " + many, x -> x.letters(w), many);
        }
    }

    private static void lettersLowestByteFirst() {
        CHECKS.due("2 in order", Checks.found(new ThirtyNine(), "x+y;t"), 0);
        ThirtyNine turned = new ThirtyNine();
        turned.letters(Checks.packed("t;y+x"));
        CHECKS.due("2 the highest byte is the last letter", turned.fault(), 0);
        ThirtyNine behind = new ThirtyNine();
        behind.letters(Checks.packed("x+y+m+h;"));
        behind.letters(Checks.packed("t"));
        CHECKS.due("2 later letters come behind", behind.fault(), 9);
    }

    private static void letterAbove126() {
        for (int place = 0; place < 8; place++) {
            long ahead = Checks.packed("aaaaaaaa".substring(0, place));
            for (long code : new long[] {1, 126}) {
                long w = ahead | code << 8 * place;
                EMPTY.answer("2 " + code + " is a letter at " + place, x -> x.letters(w), place + 1);
            }
            for (long code : new long[] {127, 128, 129, 254, 255}) {
                long w = ahead | code << 8 * place;
                SOME.keep("2 " + code + " is none at " + place, x -> x.letters(w), OUTSIDE);
            }
        }
        SOME.keep("2 one of eight above 126", x -> x.letters(0x6161616161617f61L), OUTSIDE);
    }

    private static void letterBehindZero() {
        for (int zero = 0; zero < 7; zero++) {
            for (int place = zero + 1; place < 8; place++) {
                long w = Checks.packed("aaaaaaaa".substring(0, zero)) | 1L << 8 * place;
                SOME.keep("2 a letter at " + place + " behind a 0 at " + zero, x -> x.letters(w), OUTSIDE);
            }
        }
    }

    private static void lettersAboveTwenty() {
        for (int had = 0; had <= 20; had++) {
            String page = "abcdefghijklmnopqrst".substring(0, had);
            Twins written = new Twins(CHECKS, () -> {
                ThirtyNine x = new ThirtyNine();
                Checks.write(x, page);
                return x;
            });
            for (int more = 0; more <= 8; more++) {
                long w = Checks.packed("uvwxyzuv".substring(0, more));
                String call = "2 " + more + " letters behind " + had;
                if (had + more <= 20) {
                    written.answer(call, x -> x.letters(w), had + more);
                } else {
                    written.keep(call, x -> x.letters(w), ThirtyNine.FULL);
                }
            }
        }
    }

    private static void lettersOutsideAheadOfFull() {
        FULL.keep("2 above 126 when full", x -> x.letters(127), OUTSIDE);
        FULL.keep("2 above 126 in the highest byte when full", x -> x.letters(Long.MIN_VALUE | Checks.packed("aaaaaaa")), OUTSIDE);
        FULL.keep("2 behind a 0 when full", x -> x.letters(0x610061L), OUTSIDE);
        FULL.keep("2 a letter when full", x -> x.letters('a'), ThirtyNine.FULL);
        FULL.keep("2 no letter when full", x -> x.letters(0), 20);
    }

    private static void blankOfEmptyAndOfFull() {
        EMPTY.keep("3 empty", x -> x.blank(), 0);
        ThirtyNine x = Worlds.full();
        CHECKS.due("3 full", x.blank(), 20);
        CHECKS.due("3 empty then", x.count(6), 0);
        CHECKS.due("3 empty already", x.blank(), 0);
        CHECKS.due("3 nothing else goes", x.count(0), 3);
        CHECKS.due("3 there is room again", Checks.write(x, "abcdefghijklmnopqrst"), 20);
    }

    private static void faultBehindEachLetter() {
        faultsBehind("", TERMS);
        faultsBehind("0", "+;");
        faultsBehind("10", "+;");
        faultsBehind("99", "+;");
        faultsBehind("x+", TERMS);
        faultsBehind("x+0+", TERMS);
        faultsBehind("x+0+99+", TERMS);
        faultsBehind("x+y+m", "+;");
        faultsBehind("x+y+m+l", ";");
        faultsBehind("x+y+m+0", ";");
        faultsBehind("x+y+m+9", DIGITS + ";");
        faultsBehind("x+y+m+99", ";");
        faultsBehind("x;", "ton");
        faultsBehind("99+99+99+99;", "ton");
        faultsBehind(Worlds.LONGEST_SCHOOL, "");
        for (String term : new String[] {"x", "y", "m", "l", "h"}) {
            faultsBehind(term, "+;");
        }
        for (int digit = 1; digit <= 9; digit++) {
            faultsBehind(String.valueOf(digit), DIGITS + "+;");
        }
        for (String tangles : new String[] {"t", "o", "n"}) {
            faultsBehind("0;" + tangles, "");
        }
    }

    /** Behind these letters each one letter more, and two: the first that no school has there. */
    private static void faultsBehind(String ahead, String taken) {
        for (char letter = 1; letter <= 126; letter++) {
            boolean fits = taken.indexOf(letter) >= 0;
            ThirtyNine x = new ThirtyNine();
            Checks.write(x, ahead + letter);
            CHECKS.due("4 fault of " + ahead + letter, x.fault(), ahead.length() + (fits ? 1 : 0));
            x.letters('!');
            CHECKS.due("4 fault of " + ahead + letter + "!", x.fault(), ahead.length() + (fits ? 1 : 0));
        }
    }

    private static void faultOfEmptyAndOfFull() {
        EMPTY.keep("4 empty", x -> x.fault(), 0);
        SOME.keep("4 no fault yet", x -> x.fault(), 4);
        FULL.keep("4 full, behind the longest school", x -> x.fault(), 13);
        ThirtyNine x = new ThirtyNine();
        Checks.write(x, "++++++++++++++++++++");
        CHECKS.due("4 full, at its first letter", x.fault(), 0);
    }

    /** What was read of a page, once or often, is not in the school that is read then. */
    private static void faultAndRefusedSchoolLeaveNothingBehind() {
        String[] terms = {"x", "y", "m", "l", "h", "9", "90"};
        int[] counts = {300, 70, 300, 70, 35, 9, 90};
        for (int i = 0; i < terms.length; i++) {
            ThirtyNine x = new ThirtyNine();
            Checks.write(x, terms[i]);
            CHECKS.due("4 no fault", x.fault(), terms[i].length());
            CHECKS.due("4 nor the next time", x.fault(), terms[i].length());
            CHECKS.due("5 no school yet", x.school(), STATE);
            Checks.write(x, ";t");
            CHECKS.due("5 a school then", x.school(), 0);
            CHECKS.due("6 its " + terms[i], x.counts(0, 300, 70), counts[i]);
            Checks.write(x, terms[i] + "?");
            CHECKS.due("4 a fault", x.fault(), terms[i].length());
            CHECKS.due("5 no school", x.school(), STATE);
            x.blank();
            CHECKS.due("5 the next school", Checks.found(x, "5;t"), 1);
            CHECKS.due("6 nothing of the page that was gone", x.counts(1, 300, 70), 5);
            CHECKS.due("6 the first stays", x.counts(0, 300, 70), counts[i]);
        }
    }

    private static Twins page(String text) {
        return new Twins(CHECKS, () -> {
            ThirtyNine x = Worlds.some();
            x.blank();
            Checks.write(x, text);
            return x;
        });
    }

    private static void schoolOfTooFewLetters() {
        String whole = "10+x+y+99;t";
        for (int many = 0; many < whole.length(); many++) {
            page(whole.substring(0, many)).keep("5 the first letters: " + many, x -> x.school(), STATE);
        }
        page(whole).answer("5 all letters", x -> x.school(), 2);
    }

    private static void schoolOfTooManyLetters() {
        page("x;tt").keep("5 one letter more", x -> x.school(), STATE);
        page("x;to").keep("5 another letter more", x -> x.school(), STATE);
        page("x;t;").keep("5 a sign more", x -> x.school(), STATE);
        page(Worlds.LONGEST_SCHOOL + "n").keep("5 one behind the longest", x -> x.school(), STATE);
        page(Worlds.LONGEST_SCHOOL).answer("5 the longest", x -> x.school(), 2);
        page("0;n").answer("5 the shortest", x -> x.school(), 2);
    }

    private static void schoolsThreeAtMost() {
        ThirtyNine x = new ThirtyNine();
        for (int number = 0; number < 3; number++) {
            CHECKS.due("5 number " + number, Checks.found(x, number + ";t"), number);
        }
        CHECKS.due("5 a fourth", Checks.found(x, "7;t"), ThirtyNine.FULL);
        CHECKS.due("5 the last one stays", x.counts(2, 0, 0), 2);
        Twins four = new Twins(CHECKS, () -> {
            ThirtyNine y = Worlds.full();
            y.blank();
            Checks.write(y, "7;o");
            return y;
        });
        four.keep("5 full", y -> y.school(), ThirtyNine.FULL);
    }

    private static void schoolStateAheadOfFull() {
        FULL.keep("5 no school when full", x -> x.school(), STATE);
        ThirtyNine x = Worlds.full();
        x.blank();
        CHECKS.due("5 an empty page when full", x.school(), STATE);
    }

    private static void pageIsEmptyThen() {
        ThirtyNine x = new ThirtyNine();
        Checks.found(x, "x;t");
        CHECKS.due("5 no letters", x.count(6), 0);
        CHECKS.due("5 no fault", x.fault(), 0);
        CHECKS.due("5 no school any more", x.school(), STATE);
        CHECKS.due("5 room for twenty", Checks.write(x, "abcdefghijklmnopqrst"), 20);
    }

    private static void termsOneToFour() {
        CHECKS.due("5 no term", Checks.found(new ThirtyNine(), ";t"), STATE);
        CHECKS.due("5 one term", Checks.with("x;t").counts(0, 5, 0), 5);
        CHECKS.due("5 two terms", Checks.with("x+x;t").counts(0, 5, 0), 10);
        CHECKS.due("5 three terms", Checks.with("x+x+x;t").counts(0, 5, 0), 15);
        CHECKS.due("5 four terms", Checks.with("x+x+x+x;t").counts(0, 5, 0), 20);
        CHECKS.due("5 five terms", Checks.found(new ThirtyNine(), "x+x+x+x+x;t"), STATE);
    }

    private static void numbersUpTo99() {
        for (int number = 0; number <= 99; number++) {
            CHECKS.due("5 number " + number, Checks.with(number + ";t").counts(0, 500, 500), number);
            CHECKS.due("5 as the last term", Checks.with("99+99+99+" + number + ";t").counts(0, 0, 0), 297 + number);
        }
        CHECKS.due("5 a hundred", Checks.found(new ThirtyNine(), "100;t"), STATE);
        for (int digit = 0; digit <= 9; digit++) {
            CHECKS.due("5 a 0 ahead of " + digit, Checks.found(new ThirtyNine(), "0" + digit + ";t"), STATE);
        }
    }

    private static void countsOfNumbersOutside() {
        SOME.span("6 school", 0, 1, (x, v) -> x.counts(v, 0, 0), UNKNOWN);
        FULL.span("6 school of three", 0, 2, (x, v) -> x.counts(v, 0, 0), UNKNOWN);
        SOME.span("6 x", 0, 999, (x, v) -> x.counts(0, v, 0), OUTSIDE);
        SOME.span("6 y", 0, 999, (x, v) -> x.counts(0, 0, v), OUTSIDE);
    }

    private static void countsOrder() {
        SOME.keep("6 school ahead of x", x -> x.counts(2, -1, 0), UNKNOWN);
        SOME.keep("6 school ahead of y", x -> x.counts(-1, 0, 1000), UNKNOWN);
        SOME.keep("6 both x and y", x -> x.counts(1, 1000, -1), OUTSIDE);
    }

    private static void counts999AtMost() {
        ThirtyNine x = Checks.with("x+y;t", "x+x+x+x;t", "m+m+m+m;t");
        CHECKS.due("6 998", x.counts(0, 499, 499), 998);
        CHECKS.due("6 999", x.counts(0, 500, 499), 999);
        CHECKS.due("6 1000 is 999", x.counts(0, 500, 500), 999);
        CHECKS.due("6 999 and none", x.counts(0, 999, 0), 999);
        CHECKS.due("6 999 and one", x.counts(0, 999, 1), 999);
        CHECKS.due("6 996", x.counts(1, 249, 0), 996);
        CHECKS.due("6 1000 is 999, too", x.counts(1, 250, 0), 999);
        CHECKS.due("6 the greatest of all", x.counts(2, 999, 999), 999);
    }

    private static void countsHalfRoundedDown() {
        int[][] halves = {{0, 0}, {1, 0}, {2, 1}, {3, 1}, {99, 49}, {998, 499}, {999, 499}};
        for (int[] half : halves) {
            CHECKS.due("6 half of " + half[0], Checks.with("h;t").counts(0, 700, half[0]), half[1]);
            CHECKS.due("6 each half by itself", Checks.with("h+h;t").counts(0, 700, half[0]), 2 * half[1]);
        }
    }

    private static void countsOfLikeNumbers() {
        for (int both : new int[] {0, 1, 999}) {
            CHECKS.due("6 the greater of like ones", Checks.with("m;t").counts(0, both, both), both);
            CHECKS.due("6 the lesser of like ones", Checks.with("l;t").counts(0, both, both), both);
        }
        CHECKS.due("6 the greater of 0 and 999", Checks.with("m;t").counts(0, 0, 999), 999);
        CHECKS.due("6 the lesser of 0 and 999", Checks.with("l;t").counts(0, 0, 999), 0);
    }

    private static void meetingOutside() {
        EMPTY.span("7 how", 0, 3, (x, v) -> x.meeting(v), OUTSIDE);
        SOME.span("7 how, of some", 0, 3, (x, v) -> x.meeting(v), OUTSIDE);
        SOME.answer("7 how they did", x -> x.meeting(2), 2);
    }

    /** By "x+y" 5 and 3 are 8, by "x+9" they are 14: of who wins, of who loses, the more, the less. */
    private static void meetingAtFirstByWhoWins() {
        int[][] won = {{8, 14}, {14, 8}, {14, 14}, {8, 8}};
        for (int winner = 0; winner <= 1; winner++) {
            int of = winner;
            Twins unlike = new Twins(CHECKS, () -> {
                ThirtyNine x = Checks.with("x+y;t", "x+9;t");
                x.nut(0, of, 5, 5, 20);
                x.nut(0, 1 - of, 5, 3, 20);
                return x;
            });
            unlike.answer("7 at first by who wins", x -> x.beats(0, 1), won[0][winner]);
            for (int how = 0; how <= 3; how++) {
                int told = how;
                unlike.answer("7 at first 0, not " + how, x -> x.meeting(told), 0);
                unlike.answer("7 by " + how, x -> x.meeting(told) + x.beats(0, 1), won[how][winner]);
                unlike.answer("7 refused behind " + how, x -> x.meeting(told) + x.meeting(4), OUTSIDE);
            }
        }
    }

    /** By "x+y" 5 and 3 are 8, by "x+3" too: whatever is told, it is the same. */
    private static void meetingOfLikeCounts() {
        for (int how = 0; how <= 3; how++) {
            ThirtyNine x = Checks.with("x+y;t", "x+3;t");
            x.nut(0, 0, 5, 5, 20);
            x.nut(0, 1, 5, 3, 20);
            x.meeting(how);
            CHECKS.due("7 neither more nor less, by " + how, x.beats(0, 1), 8);
        }
    }
}
