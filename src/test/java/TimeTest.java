/** Promises 12 and 14 to 16: pass, setTime, correct, age; the term TIME. */
final class TimeTest {
    private TimeTest() {
    }

    static void run() {
        promise12Pass();
        promise12PassCarries();
        promise12PassRefuses();
        promise14SetTime();
        promise14SetTimeRefuses();
        promise15Correct();
        promise16Age();
    }

    private static void promise12Pass() {
        BrownClock clock = new BrownClock();
        Check.due("pass(1)", clock.pass(1), 60);
        Check.due("pass(1440)", clock.pass(1440), 1441 * 60 + 8);
        Check.due("the minutes of the world", clock.about(0), 1441);
        Check.due("the rest", clock.about(2), 1441 * 6000 - 8000000);
        Check.due("the offset", clock.about(5), 8);
        Check.due("the time is valid", clock.about(6), 0);
        Check.due("minutes together are one action", clock.undo(), 1);
        Check.due("the minutes after undo", clock.about(0), 1);
    }

    /** With 500 millionths the rest is just a million after 100 minutes, the third time that it is so much. */
    private static void promise12PassCarries() {
        BrownClock fast = View.loaded("K+5000500");
        Check.due("fast, 33 minutes", fast.pass(33), 33 * 60);
        Check.due("fast, the rest", fast.about(2), 990000);
        Check.due("fast, 34 minutes", fast.pass(1), 34 * 60 + 1);
        Check.due("fast, the rest then", fast.about(2), 20000);
        Check.due("fast, 99 minutes", fast.pass(65), 99 * 60 + 2);
        Check.due("fast, 100 minutes", fast.pass(1), 100 * 60 + 3);
        Check.due("fast, the rest at the end", fast.about(2), 0);
        BrownClock slow = View.loaded("K-5000500");
        Check.due("slow, 33 minutes", slow.pass(33), 33 * 60);
        Check.due("slow, the rest", slow.about(2), -990000);
        Check.due("slow, 34 minutes", slow.pass(1), 34 * 60 - 1);
        Check.due("slow, the rest then", slow.about(2), -20000);
        Check.due("slow, 99 minutes", slow.pass(65), 99 * 60 - 2);
        Check.due("slow, 100 minutes", slow.pass(1), 100 * 60 - 3);
        Check.due("slow, the rest at the end", slow.about(2), 0);
        slow.pass(33);
        slow.age(500);
        Check.due("a rest that comes back over 0 does not count", slow.pass(40), 173 * 60 - 3);
        Check.due("the rest that came back", slow.about(2), 210000);
    }

    private static void promise12PassRefuses() {
        for (int m : new int[] {Integer.MIN_VALUE, -1, 0, 1441, Integer.MAX_VALUE}) {
            BrownClock clock = new BrownClock();
            Check.refuses("pass(" + m + ")", IllegalArgumentException.class, clock, () -> clock.pass(m));
            Check.refuses("undo of it", IllegalStateException.class, clock::undo);
        }
    }

    private static void promise14SetTime() {
        BrownClock clock = new BrownClock();
        clock.pass(20);
        Check.due("setTime", clock.setTime(99999999), 1200);
        Check.due("C", clock.about(1), 99999999);
        Check.due("the rest", clock.about(2), 0);
        Check.due("the time is valid", clock.about(6), 1);
        Check.due("the minutes of the world", clock.about(0), 20);
        Check.due("the offset", clock.about(5), 99998799);
        Check.due("the sum of drifts stays", clock.account(5), 120000);
        Check.due("pass after the latest time", clock.pass(1440), 99999999 + 86400 + 8);
        Check.due("setTime(0)", clock.setTime(0), 99999999 + 86400 + 8);
        Check.due("C is 0", clock.about(1), 0);
        Check.due("undo of setTime", clock.undo(), 3);
        Check.due("the rest is back", clock.about(2), 640000);
    }

    private static void promise14SetTimeRefuses() {
        for (int c : new int[] {Integer.MIN_VALUE, -1, 100000000, Integer.MAX_VALUE}) {
            BrownClock clock = new BrownClock();
            clock.pass(20);
            Check.refuses("setTime(" + c + ")", IllegalArgumentException.class, clock, () -> clock.setTime(c));
            clock.level(2);
            Check.refuses("setTime(" + c + ") by battery", IllegalArgumentException.class, () -> clock.setTime(c));
        }
        for (int level : new int[] {5, 2}) {
            BrownClock clock = new BrownClock();
            clock.pass(20);
            clock.level(level);
            Check.refuses("setTime in level " + level, IllegalStateException.class, clock, () -> clock.setTime(7));
            clock.battery(0);
            Check.refuses("setTime in domain 3", IllegalStateException.class, clock, () -> clock.setTime(7));
            clock.level(6);
            Check.due("setTime in domain 0 again", clock.setTime(7), 0);
        }
    }

    private static void promise15Correct() {
        BrownClock clock = new BrownClock();
        Check.due("correct(-500)", clock.correct(-500), 0);
        clock.pass(10);
        Check.due("the rest", clock.about(2), 360000);
        Check.due("the sum of corrections", clock.account(4), -300000);
        Check.due("correct(500)", clock.correct(500), -500);
        Check.due("the correction", clock.about(4), 500);
        clock.pass(1);
        Check.due("the rest then", clock.about(2), 336000);
        Check.due("the sum of corrections then", clock.account(4), -270000);
        Check.due("the sum of drifts then", clock.account(5), 336000);
        clock.undo();
        Check.due("undo of correct", clock.undo(), 2);
        Check.due("the correction is back", clock.about(4), -500);
        for (int v : new int[] {Integer.MIN_VALUE, -501, 501, Integer.MAX_VALUE}) {
            BrownClock other = new BrownClock();
            Check.refuses("correct(" + v + ")", IllegalArgumentException.class, other, () -> other.correct(v));
            other.level(5);
            Check.refuses("correct(" + v + ") in brown", IllegalArgumentException.class, () -> other.correct(v));
            Check.refuses("correct in brown", IllegalStateException.class, other, () -> other.correct(0));
            other.level(0);
            Check.refuses("correct by battery", IllegalStateException.class, other, () -> other.correct(0));
        }
    }

    private static void promise16Age() {
        BrownClock clock = new BrownClock();
        Check.due("age(-500)", clock.age(-500), 100);
        Check.due("the error", clock.about(3), -500);
        clock.level(0);
        Check.due("age(500) by battery", clock.age(500), -500);
        clock.pass(1);
        Check.due("the rest", clock.about(2), 30000);
        clock.battery(0);
        Check.due("age(0) in domain 3", clock.age(0), 500);
        Check.due("undo of age", clock.undo(), 5);
        Check.due("the error is back", clock.about(3), 500);
        for (int v : new int[] {Integer.MIN_VALUE, -501, 501, Integer.MAX_VALUE}) {
            BrownClock other = new BrownClock();
            Check.refuses("age(" + v + ")", IllegalArgumentException.class, other, () -> other.age(v));
            Check.refuses("undo of it", IllegalStateException.class, other::undo);
        }
    }
}
