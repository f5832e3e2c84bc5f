import java.util.ArrayList;
import java.util.List;

/** What an object answers to calls of all kinds, some of which change it: like objects answer alike. */
final class Later {
    private final ThirtyNine x;
    private final List<Long> answers = new ArrayList<>();

    private Later(ThirtyNine x) {
        this.x = x;
    }

    /** Some 200 answers: what the schools, nuts, told fights, comers, the page and the image are shows in them. */
    static List<Long> answers(ThirtyNine x) {
        Later later = new Later(x);
        later.ofSchools();
        for (int nut = 0; nut < 8; nut++) {
            later.ofNut(nut);
        }
        later.ofFights();
        later.ofTold();
        later.ofComers();
        later.ofThePage();
        later.ofTheImage();
        later.ofWhatComesMore();
        return later.answers;
    }

    private void add(long answer) {
        answers.add(answer);
    }

    private void ofSchools() {
        add(x.digest());
        for (int school = 0; school < 3; school++) {
            add(x.counts(school, 1, 100));
            add(x.counts(school, 90, 17));
        }
        for (int what = 0; what <= 6; what++) {
            add(x.count(what));
        }
    }

    private void ofNut(int nut) {
        for (int what = 0; what <= 7; what++) {
            add(x.about(nut, what));
        }
        add(x.scales(nut, 24));
        add(x.season(nut));
        add(x.most(nut, 12));
        add(x.reach(nut, 0b10110 & ~(1 << nut)));
        add(x.likely(nut, 1, 0));
        add(x.by(1, nut));
    }

    private void ofFights() {
        int[][] pairs = {{0, 1}, {1, 0}, {3, 5}, {1, 3}, {6, 2}};
        for (int[] pair : pairs) {
            for (int what = 0; what <= 3; what++) {
                add(x.would(pair[0], pair[1], 0, what));
            }
        }
    }

    private void ofTold() {
        add(x.lies(0));
        add(x.lies(1));
        for (int fight = 0; fight < 10; fight++) {
            add(x.whose(fight));
        }
        add(x.odds(0, 1, 0));
        add(x.odds(3, 5, 1));
    }

    private void ofComers() {
        for (int set = 1; set <= 128; set *= 2) {
            add(x.worth(0, set, 0));
        }
        add(x.worth(1, 7, 0));
        add(x.tree(0, 1, 2, 3, 0, 0));
        add(x.last(0, 1, 2, 3));
    }

    private void ofThePage() {
        add(x.fault());
        add(x.letters('t'));
        add(x.school());
        add(x.counts(2, 90, 17));
        add(x.blank());
        add(x.count(0));
    }

    private void ofTheImage() {
        add(x.restore());
        add(x.digest());
        add(x.meeting(0));
        for (int nut = 0; nut < 8; nut++) {
            add(x.claim(nut, ThirtyNine.NONE));
            add(x.about(nut, 6));
        }
    }

    private void ofWhatComesMore() {
        add(x.nut(1, 1, 4, 44, 44));
        add(x.told(1, 0));
        add(x.comer(1, 5, 5));
        add(x.gone());
        add(x.fight(0, 1, 5));
        add(x.beats(0, 3));
        add(x.image());
        add(x.digest());
    }
}
