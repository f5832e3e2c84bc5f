/** What the tests share: answers held against those due, and pages written from texts. */
final class Checks {
    private final String name;
    private int made;
    private int wrong;

    Checks(String name) {
        this.name = name;
    }

    void due(String call, long got, long want) {
        made++;
        if (got != want) {
            wrong++;
            System.out.println(name + ": " + call + " answered " + got + ", due is " + want);
        }
    }

    void holds(String what, boolean true_) {
        due(what, true_ ? 1 : 0, 1);
    }

    /** Ends the test, with exit code 1 if an answer was not as due. */
    void end() {
        System.out.println(name + ": " + made + " answers, " + wrong + " not as due");
        System.exit(wrong == 0 && made > 0 ? 0 : 1);
    }

    static long packed(String text) {
        long w = 0;
        for (int i = 0; i < text.length(); i++) {
            w |= (long) text.charAt(i) << 8 * i;
        }
        return w;
    }

    /** Writes a text behind the page; the answer of the last call. */
    static int write(ThirtyNine x, String text) {
        int answer = x.letters(0);
        for (int i = 0; i < text.length(); i += 8) {
            answer = x.letters(packed(text.substring(i, Math.min(text.length(), i + 8))));
        }
        return answer;
    }

    static int found(ThirtyNine x, String text) {
        write(x, text);
        return x.school();
    }

    /** An object with these schools and no nuts. */
    static ThirtyNine with(String... schools) {
        ThirtyNine x = new ThirtyNine();
        for (String school : schools) {
            found(x, school);
        }
        return x;
    }
}
