/** Clocks on which nothing is empty, and all that can be had from a clock by spending it. */
final class Whole {
    /** A text as the document describes it, of just the 60 characters that there is room for. */
    static final String FULL_TEXT = "K-1230900a0000a0231a1200a2359p0p1p2r0001r1002r3255r5100r7099";

    private static final int[] LEVELS = {6, 3, 0, 0};

    private Whole() {
    }

    /**
     * A clock in a domain, with a full text, all the states that can be remembered (the oldest ones are forgotten),
     * both slots filled; with rows, but in the domain 3, and with alarms that wait in the domains 1 and 2.
     */
    static BrownClock in(int domain) {
        BrownClock clock = View.loaded(FULL_TEXT);
        clock.setTime(5000);
        clock.save(0);
        clock.correct(77);
        clock.age(-88);
        clock.guard(1, false);
        clock.tamper(0);
        clock.tamper(2);
        for (int r = 0; r < 6; r++) {
            clock.write(r, 40 + r);
        }
        clock.setAlarm(3, 91);
        clock.pass(5);
        clock.setAlarm(2, 90);
        clock.level(5);
        clock.pass(5);
        clock.save(1);
        clock.pass(5);
        clock.level(LEVELS[domain]);
        clock.pass(1);
        if (domain != 3) {
            return clock;
        }
        clock.battery(0);
        clock.pass(2);
        return clock;
    }

    /** What the clock tells, then what the states, the slots and the text hold; at most 330 calls. */
    static String drained(BrownClock clock) {
        StringBuilder all = new StringBuilder(View.of(clock));
        all.append("\n  error position ").append(clock.errorPosition()).append("\n  states");
        for (int k = 0; k <= 14 && Check.thrownBy(clock::undo) == null; k++) {
            all.append(' ').append(clock.about(0)).append('/').append(clock.about(1)).append('/').append(clock.about(7));
            all.append('/').append(clock.about(8)).append('/').append(clock.register(4));
        }
        for (int slot = 0; slot < 2; slot++) {
            int chosen = slot;
            Class<?> thrown = Check.thrownBy(() -> clock.restore(chosen));
            all.append("\n  slot ").append(thrown == null ? View.of(clock) : "empty");
        }
        all.append("\n  loaded ").append(Check.thrownBy(clock::load) == null ? View.of(clock) : "nothing");
        return all.append("\n  length ").append(clock.clearText()).toString();
    }
}
