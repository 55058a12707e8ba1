/** Promise 21: setAlarm; the term ALARMS. */
final class AlarmTest {
    private AlarmTest() {
    }

    static void run() {
        promise21SetAlarm();
        promise21SetAlarmRefuses();
        ringsInDomain0();
        ringsOnceADay();
        twoMinutesAtOnce();
        noMinuteAtAll();
        waitsByBattery();
        waitsNoLonger();
    }

    private static void promise21SetAlarm() {
        BrownClock clock = new BrownClock();
        Check.due("setAlarm(0, 0)", clock.setAlarm(0, 0), BrownClock.NONE);
        Check.due("setAlarm(0, 1439)", clock.setAlarm(0, 1439), 0);
        Check.due("setAlarm(0, 1440)", clock.setAlarm(0, 1440), 1439);
        Check.due("setAlarm(0, 1440) again", clock.setAlarm(0, 1440), BrownClock.NONE);
        Check.due("the alarm", View.alarmOf(clock, 0), BrownClock.NONE + "/0/0");
        clock.setAlarm(3, 5);
        clock.level(0);
        Check.due("setAlarm by battery", clock.setAlarm(3, 6), 5);
        clock.battery(0);
        Check.due("setAlarm in domain 3", clock.setAlarm(3, 7), 6);
        Check.due("undo of setAlarm", clock.undo(), 8);
        Check.due("the alarm is back", clock.alarm(3, 0), 6);
        clock.level(9);
        clock.pass(6);
        clock.setAlarm(3, 900);
        Check.due("setAlarm keeps how often it rang", View.alarmOf(clock, 3), "900/0/1");
    }

    private static void promise21SetAlarmRefuses() {
        for (int i : new int[] {Integer.MIN_VALUE, -1, 4, Integer.MAX_VALUE}) {
            BrownClock clock = new BrownClock();
            Check.refuses("setAlarm(" + i + ", 1)", IndexOutOfBoundsException.class, clock, () -> clock.setAlarm(i, 1));
            Check.refuses("setAlarm(" + i + ", -1)", IndexOutOfBoundsException.class, () -> clock.setAlarm(i, -1));
        }
        for (int minute : new int[] {Integer.MIN_VALUE, BrownClock.NONE, -1, 1441, Integer.MAX_VALUE}) {
            BrownClock clock = View.loaded("K+1000500a0100");
            Check.refuses("setAlarm(0, " + minute + ")", IllegalArgumentException.class, clock,
                    () -> clock.setAlarm(0, minute));
            Check.refuses("undo of it", IllegalStateException.class, clock::undo);
        }
    }

    private static void ringsInDomain0() {
        BrownClock clock = View.loaded("K+0000500a0000a0001a0002a0002");
        clock.pass(1);
        Check.due("after a minute", clock.about(12), 1);
        Check.due("the alarm of minute 0", clock.alarm(0, 2), 0);
        Check.due("the alarm of minute 1", clock.alarm(1, 2), 1);
        clock.setTime(119);
        Check.due("setTime rings nothing", clock.about(12), 1);
        clock.pass(1);
        Check.due("two alarms at one minute", clock.about(12), 3);
        clock.setTime(60);
        clock.setTime(120);
        Check.due("setTime rings nothing, either", clock.about(12), 3);
        clock.pass(1);
        Check.due("the minute that is left is not due", clock.about(12), 3);
        Check.due("none waits", clock.about(13), 0);
    }

    private static void ringsOnceADay() {
        BrownClock clock = View.loaded("K+0000500a0000a2359");
        clock.pass(1439);
        Check.due("the last minute of the day", clock.alarm(1, 2) * 10 + clock.alarm(0, 2), 10);
        clock.pass(1);
        Check.due("the first minute of the next day", clock.alarm(1, 2) * 10 + clock.alarm(0, 2), 11);
        clock.pass(1440);
        Check.due("a day later", clock.alarm(1, 2) * 10 + clock.alarm(0, 2), 22);
        Check.due("alarms that rang", clock.about(12), 4);
    }

    /** A clock at second 59 of a minute whose next one has 61 seconds goes over two minutes' beginnings. */
    private static void twoMinutesAtOnce() {
        BrownClock clock = View.loaded("K+5000500a0034a0035a0036");
        clock.setTime(59);
        clock.pass(33);
        Check.due("alarms ahead of it", clock.about(12), 0);
        Check.due("dueAfter(0)", clock.dueAfter(0), 1);
        Check.due("dueAfter(1)", clock.dueAfter(1), 1);
        Check.due("dueAfter(2)", clock.dueAfter(2), 2);
        Check.due("the minute", clock.pass(1), 35 * 60);
        Check.due("alarms then", clock.about(12), 2);
        clock.pass(1);
        Check.due("alarms later", clock.about(12), 3);
    }

    /** A clock at second 0 of a minute whose next one has 59 seconds stays in its minute. */
    private static void noMinuteAtAll() {
        BrownClock clock = View.loaded("K-5000500a0033a0034");
        clock.pass(33);
        Check.due("an alarm ahead of it", clock.about(12), 1);
        Check.due("dueAfter(1)", clock.dueAfter(1), 2);
        Check.due("the minute", clock.pass(1), 34 * 60 - 1);
        Check.due("no alarm then", clock.about(12), 1);
        clock.pass(1);
        Check.due("an alarm later", clock.about(12), 2);
    }

    private static void waitsByBattery() {
        BrownClock clock = View.loaded("K+0009000a0001a0002");
        clock.level(5);
        clock.pass(1);
        Check.due("waits in brown", View.alarmOf(clock, 0), "1/1/0");
        clock.level(2);
        clock.pass(1);
        Check.due("waits by battery", View.alarmOf(clock, 1), "2/1/0");
        Check.due("still waits", clock.about(13), 2);
        clock.pass(1440);
        clock.level(5);
        Check.due("another day", clock.about(13), 2);
        Check.due("none rang", clock.about(12), 0);
        clock.level(6);
        Check.due("both ring once", clock.about(12), 2);
        Check.due("they rang", View.alarmOf(clock, 0) + " " + View.alarmOf(clock, 1), "1/0/1 2/0/1");
        Check.due("none waits", clock.about(13), 0);
        clock.level(0);
        clock.level(9);
        Check.due("they ring no more", clock.about(12), 2);
    }

    private static void waitsNoLonger() {
        BrownClock clock = View.loaded("K+0000020a0001a0001");
        clock.level(5);
        clock.pass(1);
        clock.setAlarm(0, 1);
        Check.due("an alarm that is set again", clock.alarm(0, 1), 0);
        Check.due("the other one", clock.alarm(1, 1), 1);
        clock.setAlarm(1, 1440);
        Check.due("an alarm that is taken away", clock.alarm(1, 1), 0);
        clock.undo();
        clock.battery(0);
        clock.battery(20);
        Check.due("a loss", clock.about(13), 0);
        clock.level(9);
        Check.due("none rings", clock.about(12), 0);
        Check.due("the alarm is still set", View.alarmOf(clock, 1), "1/0/0");
    }
}
