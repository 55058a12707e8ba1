/** Promise 23: undo; the term ACTIONS AND UNDO. */
final class UndoTest {
    private UndoTest() {
    }

    static void run() {
        promise23EachAction();
        promise23ActionsThatChangeNothing();
        promise23FourteenStates();
        promise23UndoIsNoAction();
        promise23WhatIsNoAction();
    }

    private static BrownClock used() {
        BrownClock clock = View.loaded("K+3000100a0003p0p1r2222");
        clock.setTime(110);
        clock.tamper(0);
        clock.write(1, 5);
        clock.pass(4);
        return clock;
    }

    private static void takesBack(String what, java.util.function.ToIntFunction<BrownClock> action) {
        BrownClock clock = used();
        String before = View.of(clock);
        action.applyAsInt(clock);
        Check.due(what + " changes something", View.of(clock).equals(before), false);
        Check.due("undo of " + what, clock.undo(), 4);
        Check.due("the clock after undo of " + what, View.of(clock), before);
    }

    private static void promise23EachAction() {
        takesBack("pass", clock -> clock.pass(100));
        takesBack("level", clock -> clock.level(0));
        takesBack("setTime", clock -> clock.setTime(5));
        takesBack("correct", clock -> clock.correct(5));
        takesBack("age", clock -> clock.age(5));
        takesBack("write", clock -> clock.write(3, 5));
        takesBack("guard", clock -> clock.guard(2, true));
        takesBack("tamper", clock -> clock.tamper(1));
        takesBack("clearRows", BrownClock::clearRows);
        takesBack("setAlarm", clock -> clock.setAlarm(3, 5));
        takesBack("battery", clock -> clock.battery(5));
    }

    private static void promise23ActionsThatChangeNothing() {
        BrownClock clock = used();
        String before = View.of(clock);
        clock.level(9);
        clock.correct(0);
        clock.age(300);
        clock.write(1, 5);
        clock.guard(2, false);
        clock.tamper(2);
        clock.setAlarm(3, 1440);
        clock.battery(100);
        Check.due("nothing is different", View.of(clock), before);
        for (int left = 11; left >= 4; left--) {
            Check.due("undo of nothing", clock.undo(), left);
        }
        clock.undo();
        Check.due("the pass ahead of them", clock.about(0), 0);
    }

    private static void promise23FourteenStates() {
        BrownClock clock = new BrownClock();
        Check.refuses("undo without a state", IllegalStateException.class, clock, clock::undo);
        for (int k = 1; k <= 20; k++) {
            clock.pass(k);
        }
        for (int left = 13; left >= 0; left--) {
            Check.due("undo", clock.undo(), left);
            int passed = 6 + left;
            Check.due("the minutes then", clock.about(0), passed * (passed + 1) / 2);
        }
        Check.refuses("the fifteenth undo", IllegalStateException.class, clock, clock::undo);
        clock.pass(1);
        Check.due("undo of a new action", clock.undo(), 0);
        for (int k = 1; k <= 14; k++) {
            clock.write(0, k);
        }
        Check.due("all fourteen are there", clock.undo(), 13);
    }

    private static void promise23UndoIsNoAction() {
        BrownClock clock = new BrownClock();
        clock.write(0, 1);
        clock.write(0, 2);
        clock.write(0, 3);
        clock.undo();
        clock.undo();
        clock.write(0, 9);
        Check.due("undo of an action after undo", clock.undo(), 1);
        Check.due("the register", clock.register(0), 1);
        clock.undo();
        Check.refuses("undo of all", IllegalStateException.class, clock::undo);
    }

    private static void promise23WhatIsNoAction() {
        BrownClock clock = new BrownClock();
        clock.append('K');
        clock.errorPosition();
        clock.clearText();
        View.of(clock);
        clock.whyNot();
        clock.ahead(10, 0);
        clock.endsAfter();
        clock.dueAfter(0);
        clock.bestCorrection(10);
        clock.runScript(1, 20000);
        clock.simulate(1, 10);
        clock.save(0);
        Check.refuses("undo of what is no action", IllegalStateException.class, clock::undo);
        clock.append('K');
        clock.pass(1);
        clock.append('+');
        clock.save(0);
        clock.undo();
        Check.due("undo leaves the text", clock.clearText(), 2);
        Check.due("undo leaves the slots", clock.restore(0), 1);
    }
}
