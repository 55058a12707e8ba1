/** The edges that the document's terms name (TIME to ACTIONS AND UNDO), in the document's order, a method for each. */
final class TermEdgeTest {
    private TermEdgeTest() {
    }

    static void run() {
        timeRestBelowAndAtAMillion();
        timeRestStaysUntilSetTime();
        timeGoesOnWhileNotValid();
        timeSumsBeyondAnInt();
        timeLatest();
        timeFurthestBehind();
        supplyDomainOfEachLevelAndCharge();
        supplyLossByEachWay();
        supplyNoLossWhileDead();
        supplyNoLossInDomain0();
        supplyLastMinuteOfTheBattery();
        supplyWhatALossTakesAndLeaves();
        tampersSixRowsAndTheSeventh();
        tampersRoomAfterClearRows();
        tampersAtGuardedPinsAlone();
        alarmsMinuteBehindAndMinuteAhead();
        alarmsTurnOfTheDay();
        alarmsAtTheLatestTime();
        alarmsThatAreNotSet();
        alarmsAllFourAtOnce();
        alarmsWaitUntilDomain0();
        alarmsInTheLastMinutes();
        actionsFourteenthAndFifteenth();
        actionsAfterUndoOfAFullMemory();
    }

    private static BrownClock drifting(int error, int correction) {
        BrownClock clock = new BrownClock();
        clock.age(error);
        clock.correct(correction);
        return clock;
    }

    private static void dueTime(String what, BrownClock clock, int seconds, int rest) {
        Check.due(what + ", C", clock.about(1), seconds);
        Check.due(what + ", the rest", clock.about(2), rest);
    }

    /** 641 millionths come to 999960 in 26 minutes, the most that is not carried; 500 come to just 3000000 in 100. */
    private static void timeRestBelowAndAtAMillion() {
        for (int sign = -1; sign <= 1; sign += 2) {
            BrownClock clock = drifting(sign * 500, sign * -141);
            clock.pass(26);
            dueTime("just below a million", clock, 1560, sign * 999960);
            clock.pass(1);
            dueTime("above a million", clock, 1620 + sign, sign * 38420);
            clock = drifting(sign * 500, 0);
            clock.pass(99);
            dueTime("ahead of a million", clock, 5940 + 2 * sign, sign * 970000);
            clock.pass(1);
            dueTime("just a million", clock, 6000 + 3 * sign, 0);
        }
    }

    private static void timeRestStaysUntilSetTime() {
        BrownClock clock = drifting(500, -500);
        clock.pass(16);
        clock.correct(500);
        clock.age(-500);
        dueTime("a rest and another error", clock, 960, 960000);
        clock.pass(31);
        dueTime("a rest that went through 0", clock, 2820, -900000);
        clock.setTime(2820);
        dueTime("setTime to the same C", clock, 2820, 0);
    }

    private static void timeGoesOnWhileNotValid() {
        BrownClock clock = drifting(500, -500);
        Check.due("the time of a new clock is valid", clock.about(6), 0);
        clock.pass(17);
        dueTime("a clock that was not set", clock, 1021, 20000);
        Check.due("its offset", clock.about(5), 1);
        Check.due("its sum of corrections", clock.account(4), -510000);
        Check.due("its sum of drifts", clock.account(5), 1020000);
        Check.due("its time is valid", clock.about(6), 0);
    }

    private static void timeSumsBeyondAnInt() {
        for (int sign = -1; sign <= 1; sign += 2) {
            BrownClock clock = drifting(sign * 500, sign * -500);
            for (int day = 1; day <= 60; day++) {
                clock.pass(1440);
            }
            dueTime("after 60 days", clock, 60 * 86400 + sign * 5184, 0);
            Check.due("the sum of corrections", clock.account(4), sign * -2592000000L);
            Check.due("the sum of drifts", clock.account(5), sign * 5184000000L);
        }
    }

    private static void timeLatest() {
        BrownClock clock = drifting(500, -500);
        clock.setTime(99999999);
        for (int day = 1; day <= 500; day++) {
            clock.pass(1440);
        }
        dueTime("500 days after the latest time", clock, 99999999 + 43200000 + 43200, 0);
        Check.due("the offset", clock.about(5), 99999999 + 43200);
        Check.due("account(0)", clock.account(0), 720000);
    }

    private static void timeFurthestBehind() {
        BrownClock clock = new BrownClock();
        for (int day = 1; day <= 480; day++) {
            clock.pass(1440);
        }
        clock.setTime(0);
        Check.due("the offset", clock.about(5), -41472000);
        Check.due("ahead(1440, 2)", clock.ahead(1440, 2), -41472000 + 8);
        Check.due("bestCorrection(600)", clock.bestCorrection(600), -500 + 16);
        Check.due("a script that asks the offset", clock.runScript(1, 91999), BrownClock.NONE);
    }

    private static void supplyDomainOfEachLevelAndCharge() {
        int[] charged = {2, 2, 2, 1, 1, 1, 0, 0, 0, 0};
        for (int level = 0; level <= 9; level++) {
            BrownClock clock = new BrownClock();
            clock.level(level);
            Check.due("battery(1) at level " + level, clock.battery(1), charged[level]);
            Check.due("battery(0) at level " + level, clock.battery(0), level >= 6 ? 0 : 3);
            Check.due("battery(1) again at level " + level, clock.battery(1), charged[level]);
            Check.due("battery(9999) at level " + level, clock.battery(9999), charged[level]);
        }
    }

    /** A clock in a domain that has all that a loss takes: C, a rest, registers, and rows; but no level for domain 3. */
    private static BrownClock rich(int domain, int charge) {
        BrownClock clock = View.loaded("K+5001000a0041p1r0001");
        clock.setTime(59);
        clock.pass(39);
        clock.tamper(1);
        clock.write(7, 255);
        clock.battery(charge + 2);
        clock.level(domain == 0 ? 6 : domain == 1 ? 5 : 2);
        clock.pass(2);
        clock.battery(charge);
        return clock;
    }

    private static void dueLoss(String what, BrownClock clock, int losses) {
        Check.due(what + ": the domain", clock.about(9), 3);
        Check.due(what + ": losses", clock.about(14), losses);
        dueTime(what, clock, 0, 0);
        Check.due(what + ": the time is valid", clock.about(6), 0);
        Check.due(what + ": the register", clock.register(7), 0);
        Check.due(what + ": rows", clock.about(10), 0);
        Check.due(what + ": alarms that wait", clock.about(13), 0);
    }

    private static void supplyLossByEachWay() {
        for (int level = 0; level <= 5; level++) {
            BrownClock clock = rich(0, 0);
            Check.due("no loss yet", clock.about(14) + clock.about(9), 0);
            clock.level(level);
            dueLoss("by level " + level, clock, 1);
        }
        for (int domain = 1; domain <= 2; domain++) {
            BrownClock clock = rich(domain, 1);
            Check.due("an alarm waits", clock.about(13), 1);
            clock.battery(0);
            dueLoss("by another battery in domain " + domain, clock, 1);
            clock = rich(domain, 2);
            clock.pass(1);
            Check.due("no loss by the minute ahead of it", clock.about(14), 0);
            clock.pass(1);
            dueLoss("by a minute in domain " + domain, clock, 1);
        }
    }

    private static void supplyNoLossWhileDead() {
        BrownClock clock = rich(2, 1);
        clock.pass(1);
        for (int level = 0; level <= 5; level++) {
            clock.level(level);
            clock.battery(0);
            clock.tamper(1);
            clock.pass(1440);
            dueLoss("while it is dead, at level " + level, clock, 1);
        }
        Check.due("tampers that count", clock.about(11), 1);
        Check.due("minutes in domain 3", clock.account(3), 6 * 1440);
        clock.battery(1);
        clock.battery(0);
        dueLoss("dead once more", clock, 2);
    }

    private static void supplyNoLossInDomain0() {
        BrownClock clock = rich(0, 0);
        clock.pass(1440);
        for (int level = 6; level <= 9; level++) {
            Check.due("level(" + level + ")", clock.level(level), 0);
        }
        Check.due("the charge", clock.about(8), 0);
        Check.due("losses", clock.about(14), 0);
        Check.due("C", clock.about(1), 59 + 1481 * 60 + 44);
        Check.due("the register", clock.register(7), 255);
        Check.due("rows", clock.about(10), 1);
    }

    private static void supplyLastMinuteOfTheBattery() {
        for (int level = 2; level <= 3; level++) {
            BrownClock clock = View.loaded("K+0009999");
            clock.pass(1440);
            Check.due("the charge in domain 0", clock.about(8), 9999);
            clock.level(level);
            for (int k = 1; k <= 6; k++) {
                clock.pass(1440);
            }
            Check.due("C a minute ahead of the end", clock.pass(1358), (1440 + 9998) * 60);
            Check.due("the charge then", clock.about(8), 1);
            Check.due("the domain then", clock.about(9), level == 3 ? 1 : 2);
            Check.due("C at the end", clock.pass(1), 0);
            Check.due("the charge at the end", clock.about(8), 0);
            Check.due("the domain at the end", clock.about(9), 3);
            clock.pass(1);
            Check.due("the charge stays 0", clock.about(8), 0);
        }
    }

    private static void supplyWhatALossTakesAndLeaves() {
        BrownClock clock = rich(2, 1);
        clock.setAlarm(3, 1439);
        clock.age(-499);
        Check.due("the clock ahead of a loss", View.of(clock),
                "about 41 2520 230000 -499 0 60 1 2 1 2 1 1 0 1 0 account 39 0 2 0 0 1230000"
                + " registers 0 0 0 0 0 0 0 255 guards 0 1 0 rows 1/2400/0"
                + " alarms 41/1/0 -99999999/0/0 -99999999/0/0 1439/0/0");
        clock.pass(1);
        Check.due("the clock behind a loss", View.of(clock),
                "about 42 0 0 -499 0 -2520 0 2 0 3 0 1 0 0 1 account 39 0 3 0 0 1230000"
                + " registers 0 0 0 0 0 0 0 0 guards 0 1 0 rows"
                + " alarms 41/0/0 -99999999/0/0 -99999999/0/0 1439/0/0");
    }

    private static void tampersSixRowsAndTheSeventh() {
        BrownClock clock = View.loaded("K+0000500p0p1p2");
        for (int k = 1; k <= 6; k++) {
            clock.pass(1);
            Check.due("tamper " + k, clock.tamper(k % 3), k);
            Check.due("row " + (k - 1), View.rowOf(clock, k - 1), k % 3 + "/" + 60 * k + "/0");
        }
        clock.write(0, 255);
        clock.pass(1);
        Check.due("the seventh tamper", clock.tamper(2), 6);
        Check.due("it makes the registers 0", clock.register(0), 0);
        Check.due("it is counted", clock.about(11), 7);
        Check.due("the last row is still the sixth", View.rowOf(clock, 5), "0/360/0");
        Check.due("the first row is still the first", View.rowOf(clock, 0), "1/60/0");
        Check.refuses("row(6, 0)", IndexOutOfBoundsException.class, () -> clock.row(6, 0));
        clock.undo();
        Check.due("undo of the seventh takes its count back", clock.about(11), 6);
    }

    private static void tampersRoomAfterClearRows() {
        BrownClock clock = View.loaded("K+0000500p0p2");
        for (int k = 1; k <= 7; k++) {
            clock.tamper(0);
        }
        Check.due("clearRows", clock.clearRows(), 6);
        for (int k = 1; k <= 6; k++) {
            Check.due("tamper " + k + " after clearRows", clock.tamper(2), k);
        }
        Check.due("the one behind them", clock.tamper(2), 6);
        Check.due("the first row", View.rowOf(clock, 0), "2/0/0");
        Check.due("the last row", View.rowOf(clock, 5), "2/0/0");
        Check.due("all of them", clock.about(11), 14);
    }

    private static void tampersAtGuardedPinsAlone() {
        for (int guarded = 0; guarded < 3; guarded++) {
            BrownClock clock = View.loaded("K+0000500r3009");
            clock.guard(guarded, true);
            Check.due("tamper at another pin", clock.tamper((guarded + 1) % 3) + clock.tamper((guarded + 2) % 3), 0);
            Check.due("the register stays", clock.register(3), 9);
            clock.guard(guarded, false);
            Check.due("tamper at a pin that is guarded no more", clock.tamper(guarded), 0);
            Check.due("the register stays then", clock.register(3), 9);
            clock.guard(guarded, true);
            Check.due("tamper at the guarded pin", clock.tamper(guarded), 1);
            Check.due("the register is 0", clock.register(3), 0);
            Check.due("one counts", clock.about(11), 1);
        }
    }

    /** Of the numbers u + 1 to v the first and the last are due, and u and v + 1 are not. */
    private static void alarmsMinuteBehindAndMinuteAhead() {
        BrownClock clock = View.loaded("K+0000500a0009a0010a0011a0012");
        clock.setTime(9 * 60 + 59);
        clock.pass(1);
        Check.due("u is not due", clock.alarm(0, 2), 0);
        Check.due("u + 1 is due", clock.alarm(1, 2), 1);
        Check.due("v + 1 is not due", clock.alarm(2, 2), 0);
        BrownClock two = View.loaded("K+5000500a0033a0034a0035a0036");
        two.setTime(59);
        two.pass(33);
        int before = two.alarm(0, 2);
        two.pass(1);
        Check.due("u is due no more", two.alarm(0, 2), before);
        Check.due("u + 1 is due of two", two.alarm(1, 2), 1);
        Check.due("v is due of two", two.alarm(2, 2), 1);
        Check.due("v + 1 is not due of two", two.alarm(3, 2), 0);
    }

    private static void alarmsTurnOfTheDay() {
        BrownClock clock = View.loaded("K+0000500a2359a0000a0001");
        clock.setTime(1438 * 60);
        int[] rings = {100, 110, 111, 111};
        for (int k = 0; k < rings.length; k++) {
            clock.pass(1);
            Check.due("rings " + (k + 1) + " minutes later",
                    100 * clock.alarm(0, 2) + 10 * clock.alarm(1, 2) + clock.alarm(2, 2), rings[k]);
        }
        BrownClock fast = View.loaded("K+5000500a2359a0000");
        fast.setTime(1405 * 60 + 59);
        fast.pass(33);
        Check.due("none yet", fast.about(12), 0);
        fast.pass(1);
        Check.due("both at once over the turn of the day", 10 * fast.alarm(0, 2) + fast.alarm(1, 2), 11);
    }

    /** 99999999 seconds lie in the minute 1666666, which is 586 of its day. */
    private static void alarmsAtTheLatestTime() {
        BrownClock clock = new BrownClock();
        clock.age(0);
        clock.setTime(99999999);
        clock.setAlarm(0, 586);
        clock.setAlarm(1, 587);
        clock.setAlarm(2, 588);
        Check.due("dueAfter(0)", clock.dueAfter(0), 1440);
        Check.due("dueAfter(1)", clock.dueAfter(1), 1);
        clock.pass(1);
        Check.due("the alarms", 100 * clock.alarm(0, 2) + 10 * clock.alarm(1, 2) + clock.alarm(2, 2), 10);
    }

    private static void alarmsThatAreNotSet() {
        BrownClock clock = new BrownClock();
        clock.setAlarm(0, 0);
        clock.setAlarm(0, 1440);
        clock.pass(1440);
        clock.pass(1440);
        clock.level(0);
        clock.battery(9999);
        clock.pass(1440);
        clock.pass(1440);
        Check.due("alarms that rang", clock.about(12), 0);
        Check.due("alarms that wait", clock.about(13), 0);
        Check.due("1440 is not set, and not minute 0", View.alarmOf(clock, 0), BrownClock.NONE + "/0/0");
    }

    private static void alarmsAllFourAtOnce() {
        BrownClock clock = View.loaded("K+0005000a0010a0010a0010a0010");
        clock.pass(9);
        Check.due("none rang", clock.about(12), 0);
        clock.pass(1);
        Check.due("four rang", clock.about(12), 4);
        clock.level(5);
        clock.pass(1440);
        Check.due("four wait", clock.about(13), 4);
        clock.setAlarm(2, 10);
        Check.due("three wait", clock.about(13), 3);
        clock.level(6);
        Check.due("seven rang", clock.about(12), 7);
        Check.due("none waits", clock.about(13), 0);
    }

    private static void alarmsWaitUntilDomain0() {
        for (int level = 0; level <= 5; level++) {
            for (int main = 6; main <= 9; main++) {
                BrownClock clock = View.loaded("K+0009000a0001a0002");
                clock.level(level);
                clock.pass(1440);
                clock.pass(1440);
                clock.level(level >= 3 ? 0 : 3);
                Check.due("two wait", clock.about(13), 2);
                Check.due("though due twice, none rang", clock.about(12), 0);
                clock.level(main);
                Check.due("each rings once", 10 * clock.alarm(0, 2) + clock.alarm(1, 2), 11);
                Check.due("none waits", clock.about(13), 0);
                clock.level(15 - main);
                Check.due("from domain 0 to domain 0 none rings", clock.about(12), 2);
            }
        }
    }

    private static void alarmsInTheLastMinutes() {
        BrownClock clock = View.loaded("K+0000003a0002a0003a0004");
        clock.level(2);
        clock.pass(2);
        Check.due("the last minute that the battery lasts", clock.alarm(0, 1), 1);
        clock.pass(1);
        Check.due("the minute in which it ends", clock.about(13), 0);
        clock.pass(1440);
        clock.level(9);
        Check.due("none rang", clock.about(12), 0);
        clock.pass(2);
        Check.due("the alarms are still set", clock.about(12), 1);
    }

    private static void actionsFourteenthAndFifteenth() {
        BrownClock clock = new BrownClock();
        for (int k = 1; k <= 14; k++) {
            clock.write(0, k);
        }
        for (int left = 13; left >= 0; left--) {
            Check.due("undo of fourteen", clock.undo(), left);
            Check.due("the register then", clock.register(0), left);
        }
        Check.refuses("undo of a fifteenth", IllegalStateException.class, clock, clock::undo);
        for (int k = 1; k <= 15; k++) {
            clock.write(0, k);
        }
        for (int left = 13; left >= 0; left--) {
            Check.due("undo of fifteen", clock.undo(), left);
            Check.due("the register then", clock.register(0), left + 1);
        }
        Check.refuses("undo of the oldest of fifteen", IllegalStateException.class, clock, clock::undo);
        Check.due("the oldest is forgotten", clock.register(0), 1);
    }

    private static void actionsAfterUndoOfAFullMemory() {
        BrownClock clock = new BrownClock();
        for (int k = 1; k <= 14; k++) {
            clock.write(0, k);
        }
        clock.undo();
        clock.write(0, 100);
        Check.due("the newest of fourteen", clock.undo(), 13);
        Check.due("the register of the newest", clock.register(0), 13);
        for (int left = 12; left >= 0; left--) {
            clock.undo();
        }
        Check.due("the oldest is not forgotten", clock.register(0), 0);
    }
}
