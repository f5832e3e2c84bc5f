/** Objects made alike: one of two is asked something, and later calls must answer alike on both. */
final class Twins {
    interface Maker {
        ThirtyNine make();
    }

    interface Call {
        long on(ThirtyNine x);
    }

    interface CallWith {
        long on(ThirtyNine x, int value);
    }

    private final Checks checks;
    private final Maker maker;

    Twins(Checks checks, Maker maker) {
        this.checks = checks;
        this.maker = maker;
    }

    /** The call answers so, and later calls show nothing changed: so it is with each refusal. */
    void keep(String call, Call asked, long want) {
        ThirtyNine one = maker.make();
        checks.due(call, asked.on(one), want);
        checks.holds(call + ": later calls show nothing changed", Later.answers(one).equals(Later.answers(maker.make())));
    }

    /** The call answers so. */
    void answer(String call, Call asked, long want) {
        checks.due(call, asked.on(maker.make()), want);
    }

    /** The least and the greatest are taken; what lies next to them, and far off, is refused. */
    void span(String call, int least, int greatest, CallWith asked, long refusal) {
        take(call, least, asked);
        take(call, greatest, asked);
        refuse(call, refusal, asked, least - 1, greatest + 1, Integer.MIN_VALUE, Integer.MAX_VALUE);
    }

    void refuse(String call, long refusal, CallWith asked, int... values) {
        for (int value : values) {
            keep(call + " " + value + " is refused", x -> asked.on(x, value), refusal);
        }
    }

    private void take(String call, int value, CallWith asked) {
        checks.holds(call + " " + value + " is taken", asked.on(maker.make(), value) >= ThirtyNine.NONE);
    }
}
