/** Promises 31 and 32: save, restore. */
final class SlotTest {
    private SlotTest() {
    }

    static void run() {
        promise31Save();
        promise31SaveRefuses();
        promise32Restore();
        promise32RestoreForgets();
        promise32RestoreRefuses();
    }

    private static BrownClock used() {
        BrownClock clock = View.loaded("K+3000100a0003a0008p0p1r2222");
        clock.setTime(110);
        clock.correct(-40);
        clock.tamper(0);
        clock.write(1, 5);
        clock.pass(4);
        clock.level(3);
        clock.pass(4);
        return clock;
    }

    private static void promise31Save() {
        BrownClock clock = used();
        String before = View.of(clock);
        Check.due("save(0)", clock.save(0), 8);
        Check.due("save changes nothing", View.of(clock), before);
        Check.due("save keeps the states", clock.undo(), 6);
        Check.due("save(1)", clock.save(1), 4);
        clock.undo();
        clock.undo();
        Check.due("save(0) again", clock.save(0), 0);
        Check.due("restore(1)", clock.restore(1), 4);
        Check.due("restore(0)", clock.restore(0), 0);
    }

    private static void promise31SaveRefuses() {
        for (int slot : new int[] {Integer.MIN_VALUE, -1, 2, Integer.MAX_VALUE}) {
            BrownClock clock = used();
            Check.refuses("save(" + slot + ")", IndexOutOfBoundsException.class, clock, () -> clock.save(slot));
            Check.refuses("restore(0) then", IllegalStateException.class, () -> clock.restore(0));
            Check.refuses("restore(1) then", IllegalStateException.class, () -> clock.restore(1));
        }
    }

    private static void promise32Restore() {
        BrownClock clock = used();
        String first = View.of(clock);
        clock.save(1);
        clock.pass(1000);
        clock.level(9);
        clock.guard(2, true);
        clock.tamper(1);
        clock.age(1);
        clock.setAlarm(2, 30);
        String second = View.of(clock);
        clock.save(0);
        clock.clearRows();
        Check.due("restore(1)", clock.restore(1), 8);
        Check.due("the clock of slot 1", View.of(clock), first);
        Check.due("restore(0)", clock.restore(0), 1008);
        Check.due("the clock of slot 0", View.of(clock), second);
        clock.pass(7);
        Check.due("the slot keeps it", clock.restore(0), 1008);
        Check.due("the clock of slot 0 again", View.of(clock), second);
        Check.due("restore keeps the text", clock.clearText(), 28);
    }

    private static void promise32RestoreForgets() {
        BrownClock clock = used();
        clock.save(0);
        clock.restore(0);
        Check.refuses("undo after restore", IllegalStateException.class, clock::undo);
        clock.pass(3);
        Check.due("undo of a later action", clock.undo(), 0);
        Check.due("the minutes", clock.about(0), 8);
    }

    private static void promise32RestoreRefuses() {
        for (int slot : new int[] {Integer.MIN_VALUE, -1, 2, Integer.MAX_VALUE}) {
            BrownClock clock = used();
            clock.save(0);
            Check.refuses("restore(" + slot + ")", IndexOutOfBoundsException.class, clock, () -> clock.restore(slot));
            Check.due("the states stay", clock.undo(), 6);
        }
        BrownClock clock = used();
        clock.save(1);
        Check.refuses("restore of an empty slot", IllegalStateException.class, clock, () -> clock.restore(0));
        Check.due("the states stay", clock.undo(), 6);
        clock.load();
        Check.refuses("restore after load", IllegalStateException.class, clock, () -> clock.restore(1));
    }
}
