import java.util.Random;

/** Runs of drawn calls, each answer held against the model's: all promises at once, and that no call throws. */
final class ModelTest {
    private static final Checks CHECKS = new Checks("ModelTest");
    private static final int RUNS = 160, CALLS = 512, FACE = 33;
    private static final String[] TERMS = {"x", "y", "m", "l", "h", "0", "1", "7", "10", "99", "12", "x", "y"};
    private static final String LETTERS = "xymlh0123456789+;tona*~";
    private static final int[] EDGES = {
        -1, -2, 7, 8, 9, 10, 11, 18, 19, 62, 63, 99, 100, 199, 200, 999, 1000, 1023, 1024,
        Integer.MAX_VALUE, Integer.MIN_VALUE, ThirtyNine.UNKNOWN
    };

    private final Random random;
    private final ThirtyNine x = new ThirtyNine();
    private final Model model = new Model();
    private final int wildness;

    private ModelTest(long seed) {
        random = new Random(seed);
        wildness = seed % 4 == 0 ? 5 : 60;
    }

    public static void main(String[] args) {
        for (int seed = 0; seed < RUNS; seed++) {
            new ModelTest(seed).run();
        }
        CHECKS.end();
    }

    private void run() {
        int calls = 0;
        for (int i = 0; i < 3; i++) {
            calls += foundSchool();
        }
        int nuts = 2 + random.nextInt(7);
        for (int i = 0; i < nuts; i++) {
            calls += call(7);
        }
        while (calls < CALLS) {
            int which = random.nextInt(FACE);
            boolean rare = which == 20 || which == 32;
            calls += rare && random.nextInt(3) > 0 ? 0 : call(which);
        }
    }

    private int foundSchool() {
        StringBuilder text = new StringBuilder();
        int terms = 1 + random.nextInt(4);
        for (int i = 0; i < terms; i++) {
            text.append(i == 0 ? "" : "+").append(TERMS[random.nextInt(TERMS.length)]);
        }
        text.append(';').append("ton".charAt(random.nextInt(3)));
        int calls = 0;
        for (int i = 0; i < text.length(); i += 8) {
            long w = Checks.packed(text.substring(i, Math.min(text.length(), i + 8)));
            due("letters(" + w + ")", x.letters(w), model.letters(w));
            calls++;
        }
        due("school()", x.school(), model.school());
        return calls + 1;
    }

    /** A number from least to greatest, or now and then one that is not. */
    private int drawn(int least, int greatest) {
        if (random.nextInt(wildness) == 0) {
            return EDGES[random.nextInt(EDGES.length)];
        }
        return least + random.nextInt(greatest - least + 1);
    }

    private int drawnNut() {
        return drawn(0, Math.max(0, model.count(1) - 1));
    }

    private int drawnSet(int bits) {
        return drawn(0, (1 << bits) - 1);
    }

    private long drawnLetters() {
        long w = 0;
        int many = random.nextInt(9);
        for (int i = 0; i < many; i++) {
            w |= (long) LETTERS.charAt(random.nextInt(LETTERS.length())) << 8 * i;
        }
        return random.nextInt(wildness) == 0 ? random.nextLong() : w;
    }

    private void due(String call, long got, long want) {
        CHECKS.due(call, got, want);
    }

    private int call(int which) {
        if (which < 7) {
            callSchools(which);
        } else if (which < 14) {
            callNuts(which);
        } else if (which < 21) {
            callTold(which);
        } else if (which < 29) {
            callSeasons(which);
        } else {
            callImage(which);
        }
        return 1;
    }

    private void callSchools(int which) {
        switch (which) {
            case 0:
                long w = drawnLetters();
                due("letters(" + w + ")", x.letters(w), model.letters(w));
                break;
            case 1:
                due("blank()", x.blank(), model.blank());
                break;
            case 2:
            case 3:
                due("fault()", x.fault(), model.fault());
                break;
            case 4:
                due("school()", x.school(), model.school());
                break;
            case 5:
                int school = drawn(0, 2), one = drawn(0, 999), two = drawn(0, 120);
                due("counts", x.counts(school, one, two), model.counts(school, one, two));
                break;
            default:
                int how = drawn(0, 3);
                due("meeting(" + how + ")", x.meeting(how), model.meeting(how));
        }
    }

    private void callNuts(int which) {
        int a = drawnNut(), b = drawnNut(), what = drawn(0, 7);
        int seed = random.nextInt(20) == 0 ? drawn(0, 9) : random.nextInt(Integer.MAX_VALUE);
        switch (which) {
            case 7:
                int kind = drawn(0, 4), school = drawn(0, 2), hardness = drawn(1, 9), count = drawn(0, 99), weight = drawn(1, 99);
                count = random.nextInt(3) > 0 ? count / 9 : count;
                due("nut", x.nut(kind, school, hardness, count, weight), model.nut(kind, school, hardness, count, weight));
                break;
            case 8:
                int as = drawn(0, 4);
                due("as", x.as(a, as), model.as(a, as));
                break;
            case 9:
                due("about", x.about(a, what), model.about(a, what));
                break;
            case 10:
                due("beats", x.beats(a, b), model.beats(a, b));
                break;
            case 11:
                due("fight", x.fight(a, b, seed), model.fight(a, b, seed));
                break;
            case 12:
                int told = drawn(0, 3);
                due("would", x.would(a, b, seed, told), model.would(a, b, seed, told));
                break;
            default:
                int scaled = drawn(1, 120);
                due("scales", x.scales(a, scaled), model.scales(a, scaled));
        }
    }

    private void callTold(int which) {
        int a = drawnNut(), b = drawnNut();
        switch (which) {
            case 14:
                due("told", x.told(a, b), model.told(a, b));
                break;
            case 15:
                int claim = random.nextBoolean() ? model.by(drawnSet(model.count(3)), a) : drawn(-1, 30);
                due("claim", x.claim(a, claim), model.claim(a, claim));
                break;
            case 16:
                int set = drawnSet(model.count(3)), of = random.nextInt(4) == 0 ? ThirtyNine.NONE : a;
                due("by(" + set + ", " + of + ")", x.by(set, of), model.by(set, of));
                break;
            case 17:
                int what = drawn(0, 1);
                due("lies(" + what + ")", x.lies(what), model.lies(what));
                break;
            case 18:
                int lies = drawn(0, 18);
                due("most", x.most(a, lies), model.most(a, lies));
                break;
            case 19:
                int fight = drawn(0, Math.max(0, model.count(3) - 1));
                due("whose(" + fight + ")", x.whose(fight), model.whose(fight));
                break;
            default:
                int others = drawnSet(model.count(1)) & (random.nextInt(8) == 0 || a < 0 || a > 7 ? -1 : ~(1 << a));
                due("reach(" + a + ", " + others + ")", x.reach(a, others), model.reach(a, others));
        }
    }

    private void callSeasons(int which) {
        int a = drawnNut(), b = drawnNut(), c = drawnNut(), d = drawnNut(), part = drawn(0, 1);
        switch (which) {
            case 21:
                due("odds", x.odds(a, b, part), model.odds(a, b, part));
                break;
            case 22:
                int grade = drawn(1, 3);
                due("likely", x.likely(a, grade, part), model.likely(a, grade, part));
                break;
            case 23:
                int school = drawn(0, 2), count = drawn(0, 99), tenths = drawn(0, 10);
                due("comer", x.comer(school, count, tenths), model.comer(school, count, tenths));
                break;
            case 24:
                int set = drawnSet(model.count(5));
                due("worth(" + a + ", " + set + ", " + part + ")", x.worth(a, set, part), model.worth(a, set, part));
                break;
            case 25:
                due("season(" + a + ")", x.season(a), model.season(a));
                break;
            case 26:
                int who = drawn(0, 3);
                due("tree", x.tree(a, b, c, d, who, part), model.tree(a, b, c, d, who, part));
                break;
            case 27:
                due("last", x.last(a, b, c, d), model.last(a, b, c, d));
                break;
            default:
                int w = drawn(1, 9), run = drawn(0, 10);
                due("run", x.run(w, run, part), model.run(w, run, part));
        }
    }

    private void callImage(int which) {
        switch (which) {
            case 29:
                due("image()", x.image(), model.image());
                break;
            case 30:
                due("restore()", x.restore(), model.restore());
                break;
            case 31:
                int what = drawn(0, 6);
                due("count(" + what + ")", x.count(what), model.count(what));
                if (random.nextInt(30) == 0) {
                    due("gone()", x.gone(), model.gone());
                }
                break;
            default:
                due("digest()", x.digest(), model.digest());
        }
    }
}
