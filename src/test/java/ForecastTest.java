/** Promises 24 to 28: whyNot, ahead, endsAfter, dueAfter, bestCorrection. */
final class ForecastTest {
    private ForecastTest() {
    }

    static void run() {
        promise24WhyNot();
        promise25Ahead();
        promise25AheadRefuses();
        promise26EndsAfter();
        promise27DueAfter();
        promise27DueAfterTheEnd();
        promise27DueAfterRefuses();
        promise28BestCorrection();
        promise28BestCorrectionOfEquals();
        promise28BestCorrectionElsewhere();
        promise28BestCorrectionRefuses();
    }

    private static void promise24WhyNot() {
        BrownClock clock = new BrownClock();
        Check.due("whyNot in domain 0", clock.whyNot(), 0);
        clock.level(5);
        Check.due("whyNot in domain 1", clock.whyNot(), 1);
        clock.level(0);
        Check.due("whyNot in domain 2", clock.whyNot(), 2);
        clock.battery(0);
        Check.due("whyNot in domain 3", clock.whyNot(), 3);
        clock.level(6);
        Check.due("whyNot in domain 0 again", clock.whyNot(), 0);
    }

    private static void promise25Ahead() {
        BrownClock clock = View.loaded("K+5000040a0030a0041");
        clock.setTime(300);
        String before = View.of(clock);
        int[] now = {300, 0, 300, 40, 0, 0};
        int[] then = {2341, 20000, 301, 40, 0, 1};
        for (int what = 0; what < 6; what++) {
            Check.due("ahead(0, " + what + ")", clock.ahead(0, what), now[what]);
            Check.due("ahead(34, " + what + ")", clock.ahead(34, what), then[what]);
        }
        Check.due("ahead changes nothing", View.of(clock), before);
        clock.level(3);
        int[] brown = {2641, 170000, 301, 1, 1, 0};
        int[] dead = {0, 0, -2400, 0, 3, 0};
        for (int what = 0; what < 6; what++) {
            Check.due("ahead(39, " + what + ") in brown", clock.ahead(39, what), brown[what]);
            Check.due("ahead(40, " + what + ") in brown", clock.ahead(40, what), dead[what]);
        }
        Check.due("ahead(1440, 2) in brown", clock.ahead(1440, 2), -86400);
        Check.due("ahead keeps no state", clock.undo(), 1);
    }

    private static void promise25AheadRefuses() {
        BrownClock clock = new BrownClock();
        for (int m : new int[] {Integer.MIN_VALUE, -1, 1441, Integer.MAX_VALUE}) {
            Check.refuses("ahead(" + m + ", 0)", IllegalArgumentException.class, () -> clock.ahead(m, 0));
        }
        for (int what : new int[] {Integer.MIN_VALUE, -1, 6, Integer.MAX_VALUE}) {
            Check.refuses("ahead(0, " + what + ")", IllegalArgumentException.class, () -> clock.ahead(0, what));
        }
        Check.due("ahead(1440, 0)", clock.ahead(1440, 0), 86408);
    }

    private static void promise26EndsAfter() {
        BrownClock clock = View.loaded("K+1009999");
        Check.due("endsAfter in domain 0", clock.endsAfter(), BrownClock.NONE);
        clock.level(5);
        Check.due("endsAfter in domain 1", clock.endsAfter(), 9999);
        clock.level(0);
        clock.pass(9);
        Check.due("endsAfter in domain 2", clock.endsAfter(), 9990);
        clock.battery(3);
        Check.due("endsAfter with another battery", clock.endsAfter(), 3);
        clock.pass(2);
        Check.due("not yet", clock.about(9), 2);
        clock.pass(1);
        Check.due("now", clock.about(9), 3);
        Check.due("endsAfter in domain 3", clock.endsAfter(), 0);
        clock.level(9);
        Check.due("endsAfter in domain 0 with an empty battery", clock.endsAfter(), BrownClock.NONE);
    }

    private static void promise27DueAfter() {
        BrownClock clock = View.loaded("K+0005000a0000a0001a2359");
        Check.due("dueAfter(0)", clock.dueAfter(0), 1440);
        Check.due("dueAfter(1)", clock.dueAfter(1), 1);
        Check.due("dueAfter(2)", clock.dueAfter(2), 1439);
        Check.due("dueAfter of an alarm that is not set", clock.dueAfter(3), BrownClock.NONE);
        clock.setTime(60);
        Check.due("dueAfter at the alarm's own minute", clock.dueAfter(1), 1440);
        clock.setTime(59);
        Check.due("dueAfter a second ahead", clock.dueAfter(1), 1);
        clock.level(4);
        clock.pass(1);
        Check.due("it waits", clock.alarm(1, 1), 1);
        Check.due("dueAfter of an alarm that waits", clock.dueAfter(1), 1440);
        BrownClock slow = View.loaded("K-5005000a0000");
        Check.due("dueAfter of a slow clock", slow.dueAfter(0), 1441);
    }

    private static void promise27DueAfterTheEnd() {
        BrownClock clock = View.loaded("K+0000010a0009a0010a0000");
        clock.level(0);
        Check.due("dueAfter ahead of the end", clock.dueAfter(0), 9);
        Check.due("dueAfter at the end", clock.dueAfter(1), BrownClock.NONE);
        Check.due("dueAfter of minute 0", clock.dueAfter(2), BrownClock.NONE);
        clock.pass(10);
        Check.due("dueAfter in domain 3", clock.dueAfter(0), BrownClock.NONE);
        Check.due("dueAfter of minute 0 in domain 3", clock.dueAfter(2), BrownClock.NONE);
    }

    private static void promise27DueAfterRefuses() {
        BrownClock clock = new BrownClock();
        for (int i : new int[] {Integer.MIN_VALUE, -1, 4, Integer.MAX_VALUE}) {
            Check.refuses("dueAfter(" + i + ")", IndexOutOfBoundsException.class, () -> clock.dueAfter(i));
        }
    }

    /** What the document says, minute by minute, for a clock in the domain 0. */
    private static int slowBest(BrownClock clock, int m) {
        int best = 0;
        int nearest = Integer.MAX_VALUE;
        for (int v = -500; v <= 500; v++) {
            int seconds = clock.about(1);
            int rest = clock.about(2);
            for (int k = 0; k < m; k++) {
                seconds += 60;
                rest += (clock.about(3) - v) * 60;
                for (; rest >= 1000000; rest -= 1000000) {
                    seconds++;
                }
                for (; rest <= -1000000; rest += 1000000) {
                    seconds--;
                }
            }
            int distance = Math.abs(seconds - 60 * (clock.about(0) + m));
            boolean smaller = Math.abs(v) < Math.abs(best) || Math.abs(v) == Math.abs(best) && v < best;
            if (distance < nearest || distance == nearest && smaller) {
                nearest = distance;
                best = v;
            }
        }
        return best;
    }

    private static void promise28BestCorrection() {
        for (String head : new String[] {"K+5000500", "K-5000500", "K+0010500", "K-3330500"}) {
            for (int start : new int[] {0, 57, 60, 61, 75}) {
                for (int m : new int[] {1, 17, 33, 34, 100, 599, 600}) {
                    BrownClock clock = View.loaded(head);
                    clock.pass(1);
                    clock.setTime(start);
                    clock.pass(40);
                    Check.due("bestCorrection(" + m + ") of " + head + " from " + start,
                            clock.bestCorrection(m), slowBest(clock, m));
                }
            }
        }
        BrownClock clock = View.loaded("K+5000500");
        clock.correct(250);
        Check.due("bestCorrection(600)", clock.bestCorrection(600), 473);
        Check.due("it is not set", clock.about(4), 250);
    }

    private static void promise28BestCorrectionOfEquals() {
        BrownClock clock = View.loaded("K+0000500");
        Check.due("0 is nearest to itself", clock.bestCorrection(600), 0);
        clock.pass(1);
        clock.setTime(59);
        Check.due("behind by a second, in reach", clock.bestCorrection(600), -28);
        clock.setTime(61);
        Check.due("ahead by a second, in reach", clock.bestCorrection(600), 28);
        clock.setTime(0);
        Check.due("behind by far", clock.bestCorrection(600), -500);
        clock.setTime(99999999);
        Check.due("ahead by far", clock.bestCorrection(600), 500);
        clock.setTime(0);
        Check.due("out of reach in a minute", clock.bestCorrection(1), 0);
    }

    private static void promise28BestCorrectionElsewhere() {
        BrownClock clock = View.loaded("K+5000600");
        clock.level(0);
        Check.due("by battery", clock.bestCorrection(599), 473);
        Check.due("when the battery ends", clock.bestCorrection(600), 0);
        clock.level(3);
        Check.due("in brown", clock.bestCorrection(599), 473);
        clock.battery(0);
        Check.due("in domain 3", clock.bestCorrection(300), 0);
    }

    private static void promise28BestCorrectionRefuses() {
        BrownClock clock = new BrownClock();
        for (int m : new int[] {Integer.MIN_VALUE, -1, 0, 601, Integer.MAX_VALUE}) {
            Check.refuses("bestCorrection(" + m + ")", IllegalArgumentException.class, () -> clock.bestCorrection(m));
        }
        Check.due("bestCorrection(1)", clock.bestCorrection(1), 0);
        Check.due("bestCorrection(600)", clock.bestCorrection(600), 73);
    }
}
