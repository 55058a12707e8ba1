/**
 * Every row "Throws" of promises 2 to 32, in each domain, with the first values that are not allowed and the outermost
 * ones; the rows of a call in their order; and that nothing at all is changed behind a call that is refused.
 */
final class RefusalTest {
    private static final Class<IndexOutOfBoundsException> NO_SUCH = IndexOutOfBoundsException.class;
    private static final Class<IllegalArgumentException> OUT_OF_RANGE = IllegalArgumentException.class;
    private static final Class<IllegalStateException> NOT_NOW = IllegalStateException.class;

    /** A call on a clock. */
    private interface Call {
        void on(BrownClock clock);
    }

    /** A call on a clock, with an argument. */
    private interface CallWith {
        void on(BrownClock clock, int v);
    }

    private final int domain;
    private final int rows;
    private final String unchanged;

    private RefusalTest(int domain) {
        this.domain = domain;
        BrownClock clock = Whole.in(domain);
        rows = clock.about(10);
        Check.due("the clock is in domain", clock.about(9), domain);
        Check.due("rows in domain " + domain, rows, domain == 3 ? 0 : 2);
        Check.due("alarms that wait in domain " + domain, clock.about(13), domain == 1 || domain == 2 ? 2 : 0);
        Check.due("states in domain " + domain, clock.undo(), 13);
        unchanged = Whole.drained(Whole.in(domain));
    }

    static void run() {
        for (int domain = 0; domain <= 3; domain++) {
            RefusalTest test = new RefusalTest(domain);
            test.promise2();
            test.promises6To9();
            test.promise10();
            test.promise11();
            test.promises12And13();
            test.promises14To16();
            test.promise17();
            test.promises18To20();
            test.promises21And22();
            test.promises25To28();
            test.promise29();
            test.promise30();
            test.promises31And32();
        }
        promise5OfATextThatIsNone();
        promise23WithoutAState();
        promise32WithoutAState();
    }

    private void refuses(String what, Class<? extends RuntimeException> want, Call call) {
        BrownClock clock = Whole.in(domain);
        Check.refuses(what + " in domain " + domain, want, () -> call.on(clock));
        Check.due("behind " + what + " in domain " + domain + " the clock", Whole.drained(clock), unchanged);
    }

    private void allows(String what, Call call) {
        BrownClock clock = Whole.in(domain);
        Check.due(what + " is allowed in domain " + domain, Check.thrownBy(() -> call.on(clock)) == null, true);
    }

    /** Refused just outside the two ends and as far from them as can be, and allowed at both ends. */
    private void needs(String what, Class<? extends RuntimeException> want, int first, int last, CallWith call) {
        refusesOutside(what, want, first, last, call);
        allows(what + " with " + first, clock -> call.on(clock, first));
        allows(what + " with " + last, clock -> call.on(clock, last));
    }

    private void refusesOutside(String what, Class<? extends RuntimeException> want, int first, int last, CallWith call) {
        for (int v : new int[] {Integer.MIN_VALUE, first - 1, last + 1, Integer.MAX_VALUE}) {
            refuses(what + " with " + v, want, clock -> call.on(clock, v));
        }
    }

    /** Allowed in the domain 0 alone. */
    private void needsMain(String what, Call call) {
        if (domain == 0) {
            allows(what, call);
        } else {
            refuses(what, NOT_NOW, call);
        }
    }

    private void promise2() {
        refuses("append to a full text", NOT_NOW, clock -> clock.append('K'));
        refusesOutside("append to a full text", OUT_OF_RANGE, 0, 255, (clock, v) -> clock.append(v));
    }

    private void promises6To9() {
        needs("about", OUT_OF_RANGE, 0, 14, (clock, v) -> clock.about(v));
        needs("account", OUT_OF_RANGE, 0, 5, (clock, v) -> clock.account(v));
        needs("register", NO_SUCH, 0, 7, (clock, v) -> clock.register(v));
        needs("isGuarded", NO_SUCH, 0, 2, (clock, v) -> clock.isGuarded(v));
    }

    private void promise10() {
        if (rows == 0) {
            refuses("row(0, 0) without rows", NO_SUCH, clock -> clock.row(0, 0));
            refuses("row(0, 3) without rows", NO_SUCH, clock -> clock.row(0, 3));
            return;
        }
        needs("row(j, 0)", NO_SUCH, 0, rows - 1, (clock, j) -> clock.row(j, 0));
        needs("row(0, what)", OUT_OF_RANGE, 0, 2, (clock, what) -> clock.row(0, what));
        refusesOutside("row(j, -1)", NO_SUCH, 0, rows - 1, (clock, j) -> clock.row(j, -1));
        refusesOutside("row(j, 3)", NO_SUCH, 0, rows - 1, (clock, j) -> clock.row(j, 3));
    }

    private void promise11() {
        needs("alarm(i, 0)", NO_SUCH, 0, 3, (clock, i) -> clock.alarm(i, 0));
        needs("alarm(0, what)", OUT_OF_RANGE, 0, 2, (clock, what) -> clock.alarm(0, what));
        needs("alarm(3, what)", OUT_OF_RANGE, 0, 2, (clock, what) -> clock.alarm(3, what));
        refusesOutside("alarm(i, -1)", NO_SUCH, 0, 3, (clock, i) -> clock.alarm(i, -1));
        refusesOutside("alarm(i, 3)", NO_SUCH, 0, 3, (clock, i) -> clock.alarm(i, 3));
    }

    private void promises12And13() {
        needs("pass", OUT_OF_RANGE, 1, 1440, (clock, m) -> clock.pass(m));
        needs("level", OUT_OF_RANGE, 0, 9, (clock, v) -> clock.level(v));
    }

    private void promises14To16() {
        refusesOutside("setTime", OUT_OF_RANGE, 0, 99999999, (clock, c) -> clock.setTime(c));
        needsMain("setTime(0)", clock -> clock.setTime(0));
        needsMain("setTime(99999999)", clock -> clock.setTime(99999999));
        refusesOutside("correct", OUT_OF_RANGE, -500, 500, (clock, v) -> clock.correct(v));
        needsMain("correct(-500)", clock -> clock.correct(-500));
        needsMain("correct(500)", clock -> clock.correct(500));
        needs("age", OUT_OF_RANGE, -500, 500, (clock, v) -> clock.age(v));
    }

    private void promise17() {
        refusesOutside("write(r, 0)", NO_SUCH, 0, 7, (clock, r) -> clock.write(r, 0));
        refusesOutside("write(r, -1)", NO_SUCH, 0, 7, (clock, r) -> clock.write(r, -1));
        refusesOutside("write(r, 256)", NO_SUCH, 0, 7, (clock, r) -> clock.write(r, 256));
        refusesOutside("write(0, v)", OUT_OF_RANGE, 0, 255, (clock, v) -> clock.write(0, v));
        refusesOutside("write(7, v)", OUT_OF_RANGE, 0, 255, (clock, v) -> clock.write(7, v));
        needsMain("write(0, 0)", clock -> clock.write(0, 0));
        needsMain("write(7, 255)", clock -> clock.write(7, 255));
    }

    private void promises18To20() {
        refusesOutside("guard(p, true)", NO_SUCH, 0, 2, (clock, p) -> clock.guard(p, true));
        refusesOutside("guard(p, false)", NO_SUCH, 0, 2, (clock, p) -> clock.guard(p, false));
        needsMain("guard(0, false)", clock -> clock.guard(0, false));
        needsMain("guard(2, true)", clock -> clock.guard(2, true));
        needs("tamper", NO_SUCH, 0, 2, (clock, p) -> clock.tamper(p));
        needsMain("clearRows", clock -> clock.clearRows());
    }

    private void promises21And22() {
        needs("setAlarm(i, 0)", NO_SUCH, 0, 3, (clock, i) -> clock.setAlarm(i, 0));
        refusesOutside("setAlarm(i, -1)", NO_SUCH, 0, 3, (clock, i) -> clock.setAlarm(i, -1));
        refusesOutside("setAlarm(i, 1441)", NO_SUCH, 0, 3, (clock, i) -> clock.setAlarm(i, 1441));
        needs("setAlarm(0, minute)", OUT_OF_RANGE, 0, 1440, (clock, minute) -> clock.setAlarm(0, minute));
        needs("setAlarm(3, minute)", OUT_OF_RANGE, 0, 1440, (clock, minute) -> clock.setAlarm(3, minute));
        needs("battery", OUT_OF_RANGE, 0, 9999, (clock, charge) -> clock.battery(charge));
    }

    private void promises25To28() {
        needs("ahead(m, 0)", OUT_OF_RANGE, 0, 1440, (clock, m) -> clock.ahead(m, 0));
        needs("ahead(0, what)", OUT_OF_RANGE, 0, 5, (clock, what) -> clock.ahead(0, what));
        refusesOutside("ahead(m, 6)", OUT_OF_RANGE, 0, 1440, (clock, m) -> clock.ahead(m, 6));
        needs("dueAfter", NO_SUCH, 0, 3, (clock, i) -> clock.dueAfter(i));
        needs("bestCorrection", OUT_OF_RANGE, 1, 600, (clock, m) -> clock.bestCorrection(m));
    }

    private void promise29() {
        needs("runScript(n, 0)", OUT_OF_RANGE, 1, 3, (clock, n) -> clock.runScript(n, 0));
        refusesOutside("runScript(n, -1)", OUT_OF_RANGE, 1, 3, (clock, n) -> clock.runScript(n, -1));
        long first = 1;
        for (int n = 1; n <= 3; n++) {
            int commands = n;
            first *= 100000;
            for (long script : new long[] {Long.MIN_VALUE, -1, first, Long.MAX_VALUE}) {
                refuses("runScript(" + n + ", " + script + ")", OUT_OF_RANGE, clock -> clock.runScript(commands, script));
            }
            long last = first - 1;
            allows("runScript(" + n + ", " + last + ")", clock -> clock.runScript(commands, last));
        }
    }

    private void promise30() {
        needs("simulate(0, m)", OUT_OF_RANGE, 1, 60, (clock, m) -> clock.simulate(0, m));
        for (long seed : new long[] {Long.MIN_VALUE, -1, Long.MAX_VALUE}) {
            allows("simulate with the seed " + seed, clock -> clock.simulate(seed, 1));
        }
    }

    private void promises31And32() {
        needs("save", NO_SUCH, 0, 1, (clock, slot) -> clock.save(slot));
        needs("restore", NO_SUCH, 0, 1, (clock, slot) -> clock.restore(slot));
    }

    private static void promise5OfATextThatIsNone() {
        for (int domain = 0; domain <= 3; domain++) {
            for (int length : new int[] {0, 8, 59}) {
                String text = Whole.FULL_TEXT.substring(0, length);
                BrownClock clock = retyped(domain, text);
                Check.refuses("load of '" + text + "' in domain " + domain, NOT_NOW, clock::load);
                Check.due("behind load of '" + text + "' the clock", Whole.drained(clock),
                        Whole.drained(retyped(domain, text)));
            }
        }
    }

    private static BrownClock retyped(int domain, String text) {
        BrownClock clock = Whole.in(domain);
        clock.clearText();
        View.type(clock, text);
        return clock;
    }

    private static void promise23WithoutAState() {
        for (int slot = 0; slot < 2; slot++) {
            int chosen = slot;
            BrownClock twin = Whole.in(2);
            twin.restore(chosen);
            String want = Whole.drained(twin);
            BrownClock clock = Whole.in(2);
            clock.restore(chosen);
            Check.refuses("undo without a state", NOT_NOW, clock::undo);
            Check.due("behind undo without a state the clock", Whole.drained(clock), want);
        }
    }

    private static void promise32WithoutAState() {
        for (int slot = 0; slot < 2; slot++) {
            int chosen = slot;
            BrownClock clock = withSlot(1 - slot);
            Check.refuses("restore of the empty slot " + slot, NOT_NOW, () -> clock.restore(chosen));
            Check.due("behind restore of the empty slot " + slot + " the clock", Whole.drained(clock),
                    Whole.drained(withSlot(1 - slot)));
        }
    }

    /** A clock that has something in one slot alone. */
    private static BrownClock withSlot(int slot) {
        BrownClock clock = View.loaded(Whole.FULL_TEXT);
        for (int k = 1; k <= 15; k++) {
            clock.pass(k);
        }
        clock.save(slot);
        clock.level(0);
        return clock;
    }
}
