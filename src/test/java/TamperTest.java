/** Promises 17 to 20: write, guard, tamper, clearRows; the terms REGISTERS and TAMPERS. */
final class TamperTest {
    private TamperTest() {
    }

    static void run() {
        promise17Write();
        promise17WriteRefuses();
        promise18Guard();
        promise18GuardRefuses();
        promise19Tamper();
        promise19TamperDoesNothing();
        promise19TamperBeyondSixRows();
        promise19TamperRefuses();
        promise20ClearRows();
    }

    private static void promise17Write() {
        BrownClock clock = new BrownClock();
        for (int r = 0; r < 8; r++) {
            Check.due("write(" + r + ", 255)", clock.write(r, 255), 0);
            Check.due("write(" + r + ", " + r + ")", clock.write(r, r), 255);
        }
        Check.due("the registers", clock.register(0) + 10 * clock.register(3) + 1000 * clock.register(7), 7030);
        clock.undo();
        Check.due("undo of write", clock.register(7), 255);
    }

    private static void promise17WriteRefuses() {
        for (int r : new int[] {Integer.MIN_VALUE, -1, 8, Integer.MAX_VALUE}) {
            BrownClock clock = new BrownClock();
            Check.refuses("write(" + r + ", 1)", IndexOutOfBoundsException.class, clock, () -> clock.write(r, 1));
            clock.level(0);
            Check.refuses("write(" + r + ", 256)", IndexOutOfBoundsException.class, () -> clock.write(r, 256));
        }
        for (int v : new int[] {Integer.MIN_VALUE, -1, 256, Integer.MAX_VALUE}) {
            BrownClock clock = new BrownClock();
            Check.refuses("write(0, " + v + ")", IllegalArgumentException.class, clock, () -> clock.write(0, v));
            clock.level(0);
            Check.refuses("write(7, " + v + ")", IllegalArgumentException.class, () -> clock.write(7, v));
        }
        for (int level : new int[] {5, 2}) {
            BrownClock clock = View.loaded("K+1000010r0001");
            clock.level(level);
            Check.refuses("write in level " + level, IllegalStateException.class, clock, () -> clock.write(0, 2));
            clock.battery(0);
            Check.refuses("write in domain 3", IllegalStateException.class, clock, () -> clock.write(0, 2));
            Check.due("undo of the two actions", clock.undo(), 1);
        }
    }

    private static void promise18Guard() {
        BrownClock clock = new BrownClock();
        Check.due("guard(1, true)", clock.guard(1, true), 1);
        Check.due("guard(1, true) again", clock.guard(1, true), 1);
        Check.due("guard(2, true)", clock.guard(2, true), 2);
        Check.due("guard(0, true)", clock.guard(0, true), 3);
        Check.due("guard(1, false)", clock.guard(1, false), 2);
        Check.due("guard(1, false) again", clock.guard(1, false), 2);
        Check.due("isGuarded", clock.isGuarded(0) && !clock.isGuarded(1) && clock.isGuarded(2), true);
        clock.undo();
        clock.undo();
        Check.due("undo of guard", clock.isGuarded(1), true);
    }

    private static void promise18GuardRefuses() {
        for (int p : new int[] {Integer.MIN_VALUE, -1, 3, Integer.MAX_VALUE}) {
            BrownClock clock = new BrownClock();
            Check.refuses("guard(" + p + ")", IndexOutOfBoundsException.class, clock, () -> clock.guard(p, true));
            clock.level(0);
            Check.refuses("guard(" + p + ") by battery", IndexOutOfBoundsException.class, () -> clock.guard(p, true));
        }
        for (int level : new int[] {5, 2}) {
            BrownClock clock = new BrownClock();
            clock.level(level);
            Check.refuses("guard in level " + level, IllegalStateException.class, clock, () -> clock.guard(0, true));
            clock.battery(0);
            Check.refuses("guard in domain 3", IllegalStateException.class, clock, () -> clock.guard(0, true));
        }
    }

    private static void promise19Tamper() {
        int[] levels = {9, 4, 1};
        for (int domain = 0; domain < 3; domain++) {
            BrownClock clock = View.loaded("K+0000010p1r0001r7255");
            clock.setTime(777);
            clock.level(levels[domain]);
            Check.due("tamper in domain " + domain, clock.tamper(1), 1);
            Check.due("the row", View.rowOf(clock, 0), "1/777/" + domain);
            Check.due("the registers", clock.register(0) + clock.register(7), 0);
            Check.due("tampers so far", clock.about(11), 1);
            Check.due("rows", clock.about(10), 1);
            clock.undo();
            Check.due("undo of tamper", clock.register(7), 255);
            Check.due("the row is gone", clock.about(10) + clock.about(11), 0);
        }
    }

    private static void promise19TamperDoesNothing() {
        BrownClock clock = View.loaded("K+1000010p1r0001");
        Check.due("tamper at a pin without guard", clock.tamper(0) + clock.tamper(2), 0);
        Check.due("the register stays", clock.register(0), 1);
        Check.due("tampers so far", clock.about(11), 0);
        Check.due("it is an action all the same", clock.undo(), 1);
        clock.level(0);
        clock.battery(0);
        Check.due("tamper in domain 3", clock.tamper(1), 0);
        Check.due("tampers in domain 3", clock.about(11), 0);
        Check.due("it is an action as well", clock.undo(), 3);
    }

    private static void promise19TamperBeyondSixRows() {
        BrownClock clock = View.loaded("K+1000010p0p1p2");
        for (int k = 1; k <= 9; k++) {
            clock.write(3, k);
            Check.due("tamper " + k, clock.tamper(k % 3), Math.min(k, 6));
            Check.due("the register", clock.register(3), 0);
            Check.due("tampers so far", clock.about(11), k);
        }
        for (int j = 0; j < 6; j++) {
            Check.due("the pin of row " + j, clock.row(j, 0), (j + 1) % 3);
        }
        clock.level(0);
        clock.battery(0);
        Check.due("a loss takes the rows", clock.about(10), 0);
        Check.due("and leaves the count", clock.about(11), 9);
    }

    private static void promise19TamperRefuses() {
        for (int p : new int[] {Integer.MIN_VALUE, -1, 3, Integer.MAX_VALUE}) {
            BrownClock clock = View.loaded("K+1000010p0p1p2r0001");
            Check.refuses("tamper(" + p + ")", IndexOutOfBoundsException.class, clock, () -> clock.tamper(p));
            clock.level(0);
            clock.battery(0);
            Check.refuses("tamper(" + p + ") in domain 3", IndexOutOfBoundsException.class, () -> clock.tamper(p));
        }
    }

    private static void promise20ClearRows() {
        BrownClock clock = View.loaded("K+1000010p0");
        Check.due("clearRows without rows", clock.clearRows(), 0);
        for (int k = 0; k < 8; k++) {
            clock.tamper(0);
        }
        Check.due("clearRows", clock.clearRows(), 6);
        Check.due("rows then", clock.about(10), 0);
        Check.due("the count stays", clock.about(11), 8);
        Check.refuses("row(0, 0) then", IndexOutOfBoundsException.class, () -> clock.row(0, 0));
        clock.undo();
        Check.due("undo of clearRows", clock.row(5, 0), 0);
        clock.clearRows();
        Check.due("tamper after clearRows", clock.tamper(0), 1);
        for (int level : new int[] {5, 2}) {
            clock.level(level);
            Check.refuses("clearRows in level " + level, IllegalStateException.class, clock, clock::clearRows);
        }
        clock.battery(0);
        Check.refuses("clearRows in domain 3", IllegalStateException.class, clock::clearRows);
    }
}
