/** Promises 29 and 30: runScript, simulate. */
final class ScriptTest {
    private ScriptTest() {
    }

    static void run() {
        promise29Passes();
        promise29SetsLevel();
        promise29Corrects();
        promise29Writes();
        promise29Tampers();
        promise29UnsetsAlarm();
        promise29AsksDomain();
        promise29AsksRegister();
        promise29AsksOffset();
        promise29OtherGroups();
        promise29EveryGroup();
        promise29Order();
        promise29ChangesNothing();
        promise29Refuses();
        promise30Simulate();
        promise30SimulateRefuses();
    }

    private static BrownClock used() {
        BrownClock clock = View.loaded("K+5000100a0005p1r3123");
        clock.setTime(120);
        return clock;
    }

    private static void succeeds(BrownClock clock, long command) {
        Check.due("runScript(1, " + command + ")", clock.runScript(1, command), BrownClock.NONE);
    }

    private static void fails(BrownClock clock, long command) {
        Check.due("runScript(1, " + command + ")", clock.runScript(1, command), 0);
    }

    private static void promise29Passes() {
        BrownClock clock = used();
        succeeds(clock, 10001);
        succeeds(clock, 11440);
        fails(clock, 10000);
        fails(clock, 11441);
        fails(clock, 19999);
        Check.due("an offset not yet won", clock.runScript(2, 10033_90120L), BrownClock.NONE);
        Check.due("an offset won", clock.runScript(2, 10034_90120L), 1);
        Check.due("an offset of the second", clock.runScript(2, 10034_90121L), BrownClock.NONE);
    }

    private static void promise29SetsLevel() {
        BrownClock clock = used();
        for (int v = 0; v <= 9; v++) {
            succeeds(clock, 20000 + v);
            int domain = v >= 6 ? 0 : v >= 3 ? 1 : 2;
            Check.due("the domain of level " + v, clock.runScript(2, (20000L + v) * 100000 + 70000 + domain), -99999999);
        }
        fails(clock, 20010);
        fails(clock, 20100);
        fails(clock, 21000);
    }

    private static void promise29Corrects() {
        BrownClock clock = used();
        succeeds(clock, 30000);
        succeeds(clock, 31000);
        succeeds(clock, 30500);
        succeeds(clock, 31500);
        fails(clock, 30501);
        fails(clock, 31501);
        fails(clock, 32000);
        fails(clock, 39500);
        Check.due("no drift with it", clock.runScript(3, 30500_11440_90120L), BrownClock.NONE);
        Check.due("twice the drift against it", clock.runScript(3, 31500_10016_90120L), BrownClock.NONE);
        Check.due("twice the drift against it, at last", clock.runScript(3, 31500_10017_90120L), 2);
        Check.due("correct in brown", clock.runScript(2, 20005_30000L), 1);
    }

    private static void promise29Writes() {
        BrownClock clock = used();
        succeeds(clock, 40000);
        succeeds(clock, 47255);
        fails(clock, 47256);
        fails(clock, 47999);
        fails(clock, 48000);
        fails(clock, 49255);
        Check.due("what is written", clock.runScript(2, 45067_85067L), BrownClock.NONE);
        Check.due("another number", clock.runScript(2, 45067_85066L), 1);
        Check.due("another register", clock.runScript(2, 45067_86067L), 1);
        Check.due("write by battery", clock.runScript(2, 20002_45067L), 1);
    }

    private static void promise29Tampers() {
        BrownClock clock = used();
        succeeds(clock, 50000);
        succeeds(clock, 50002);
        fails(clock, 50003);
        fails(clock, 50009);
        fails(clock, 50010);
        fails(clock, 50100);
        fails(clock, 51000);
        Check.due("a pin without guard", clock.runScript(2, 50000_83123L), BrownClock.NONE);
        Check.due("a pin with a guard", clock.runScript(2, 50001_83000L), BrownClock.NONE);
    }

    private static void promise29UnsetsAlarm() {
        BrownClock clock = used();
        for (int i = 0; i < 4; i++) {
            succeeds(clock, 60000 + 1000 * i);
        }
        fails(clock, 64000);
        fails(clock, 69000);
        fails(clock, 60001);
        fails(clock, 60010);
        fails(clock, 60100);
        Check.due("the alarm is still set", clock.alarm(0, 0), 5);
        Check.due("an alarm by battery", clock.runScript(2, 20000_60000L), BrownClock.NONE);
    }

    private static void promise29AsksDomain() {
        BrownClock clock = used();
        succeeds(clock, 70000);
        fails(clock, 70001);
        fails(clock, 70009);
        fails(clock, 70010);
        fails(clock, 70100);
        fails(clock, 71000);
        Check.due("brown", clock.runScript(2, 20003_70001L), BrownClock.NONE);
        Check.due("by battery", clock.runScript(2, 20002_70002L), BrownClock.NONE);
        Check.due("not dead yet", clock.runScript(3, 20002_10099_70003L), 2);
        Check.due("dead", clock.runScript(3, 20002_10100_70003L), BrownClock.NONE);
    }

    private static void promise29AsksRegister() {
        BrownClock clock = used();
        succeeds(clock, 83123);
        succeeds(clock, 80000);
        fails(clock, 83122);
        fails(clock, 82123);
        fails(clock, 88000);
        fails(clock, 89000);
        fails(clock, 80999);
    }

    private static void promise29AsksOffset() {
        BrownClock clock = used();
        succeeds(clock, 90120);
        succeeds(clock, 90999);
        fails(clock, 90119);
        fails(clock, 91000);
        fails(clock, 92999);
        fails(clock, 99999);
        clock.pass(10);
        clock.setTime(0);
        succeeds(clock, 91600);
        succeeds(clock, 90000);
        succeeds(clock, 91599);
        fails(clock, 91601);
        fails(clock, 92000);
    }

    private static void promise29OtherGroups() {
        BrownClock clock = used();
        fails(clock, 0);
        fails(clock, 1);
        fails(clock, 9999);
    }

    /** Each of the 100000 groups as a script of one command, in each domain. */
    private static void promise29EveryGroup() {
        int[] levels = {6, 5, 2, 2};
        for (int domain = 0; domain <= 3; domain++) {
            BrownClock clock = null;
            for (int group = 0; group <= 99999; group++) {
                if (group % 400 == 0) {
                    clock = used();
                    clock.pass(2);
                    clock.level(levels[domain]);
                    clock.battery(domain == 3 ? 0 : 9);
                }
                boolean allowed = isAllowed(domain, group);
                Check.due("runScript(1, " + group + ") in domain " + domain, clock.runScript(1, group),
                        allowed ? BrownClock.NONE : 0);
            }
        }
    }

    private static boolean isAllowed(int domain, int group) {
        int second = group / 1000 % 10;
        int number = group % 1000;
        boolean zeros = second == 0 && number <= 9;
        int[] registers = {0, 0, 0, domain == 3 ? 0 : 123, 0, 0, 0, 0};
        int offset = domain == 3 ? -120 : 120;
        switch (group / 10000) {
            case 1:
                return group >= 10001 && group <= 11440;
            case 2:
                return zeros;
            case 3:
                return second <= 1 && number <= 500 && domain == 0;
            case 4:
                return second <= 7 && number <= 255 && domain == 0;
            case 5:
                return zeros && number <= 2;
            case 6:
                return second <= 3 && number == 0;
            case 7:
                return zeros && number == domain;
            case 8:
                return second <= 7 && number == registers[second];
            case 9:
                return second == 0 && offset <= number || second == 1 && offset <= -number;
            default:
                return false;
        }
    }

    private static void promise29Order() {
        BrownClock clock = used();
        Check.due("the first one fails", clock.runScript(3, 0), 0);
        Check.due("fewer digits", clock.runScript(2, 70000), 0);
        Check.due("the second one fails", clock.runScript(3, 70000_70001_70001L), 1);
        Check.due("the third one fails", clock.runScript(3, 70000_70000_70001L), 2);
        Check.due("none fails", clock.runScript(3, 70000_70000_70000L), BrownClock.NONE);
        Check.due("what the first does, the last sees", clock.runScript(3, 41009_70000_81009L), BrownClock.NONE);
    }

    private static void promise29ChangesNothing() {
        BrownClock clock = used();
        String before = View.of(clock);
        clock.runScript(3, 47001_30100_60000L);
        clock.runScript(3, 50001_20001_11440L);
        Check.due("the clock after scripts", View.of(clock), before);
        Check.due("no state is remembered", clock.undo(), 0);
    }

    private static void promise29Refuses() {
        BrownClock clock = new BrownClock();
        for (int n : new int[] {Integer.MIN_VALUE, -1, 0, 4, Integer.MAX_VALUE}) {
            Check.refuses("runScript(" + n + ", 70000)", IllegalArgumentException.class, () -> clock.runScript(n, 70000));
            Check.refuses("runScript(" + n + ", 0)", IllegalArgumentException.class, () -> clock.runScript(n, 0));
        }
        long limit = 1;
        for (int n = 1; n <= 3; n++) {
            int commands = n;
            limit *= 100000;
            for (long script : new long[] {Long.MIN_VALUE, -1, limit, Long.MAX_VALUE}) {
                Check.refuses("runScript(" + n + ", " + script + ")", IllegalArgumentException.class,
                        () -> clock.runScript(commands, script));
            }
            Check.due("runScript(" + n + ") with the largest number", clock.runScript(n, limit - 1), 0);
            Check.due("runScript(" + n + ", 0)", clock.runScript(n, 0), 0);
        }
    }

    /** The rounds as actions on a clock of their own. */
    private static int slowSimulation(BrownClock clock, long seed, int m) {
        long x = seed;
        for (int k = 0; k < m; k++) {
            x = x * 6364136223846793005L + 1442695040888963407L;
            int r = (int) (x >>> 33);
            switch (r % 8) {
                case 0:
                    clock.level(r / 8 % 10);
                    break;
                case 1:
                    clock.tamper(r / 8 % 3);
                    break;
                default:
                    break;
            }
            clock.pass(1 + r / 64 % 60);
        }
        return 100 * clock.about(8) + 10 * clock.about(9) + clock.about(10);
    }

    private static void promise30Simulate() {
        Check.due("simulate(0, 1)", View.loaded("K+0000001").simulate(0, 1), 100);
        long[] seeds = {0, 1, -1, Long.MIN_VALUE, Long.MAX_VALUE, 424242, 5, 6, 7, 8, 9, 10, 11, 12, 13, 14};
        String[] heads = {"K+1009999p0p1p2", "K-1000060p0", "K+1000700p1p2"};
        for (long seed : seeds) {
            for (int m : new int[] {1, 2, 10, 59, 60}) {
                for (String head : heads) {
                    BrownClock clock = View.loaded(head);
                    String before = View.of(clock);
                    Check.due("simulate(" + seed + ", " + m + ") of " + head,
                            clock.simulate(seed, m), slowSimulation(View.loaded(head), seed, m));
                    Check.due("the clock after simulate", View.of(clock), before);
                    Check.refuses("undo of simulate", IllegalStateException.class, clock::undo);
                }
            }
        }
    }

    private static void promise30SimulateRefuses() {
        BrownClock clock = new BrownClock();
        for (int m : new int[] {Integer.MIN_VALUE, -1, 0, 61, Integer.MAX_VALUE}) {
            Check.refuses("simulate(1, " + m + ")", IllegalArgumentException.class, () -> clock.simulate(1, m));
        }
    }
}
