/**
 * The edges that promises 1 to 32 name and that are no refusals, in the document's order. Refusals, with the first and
 * the last value that is allowed, are in RefusalTest; the terms' edges in TermEdgeTest.
 */
final class PromiseEdgeTest {
    private static final int NONE = BrownClock.NONE;

    private PromiseEdgeTest() {
    }

    static void run() {
        promise1IsWhereUndoEnds();
        promise2EveryCode();
        promise2FullText();
        promise3EmptyAndFullText();
        promise4FullText();
        promise5FullText();
        promise5InEachDomain();
        promise5NumberOfAlarms();
        promise6And7LastNumbers();
        promise10FirstAndLastRow();
        promise12OverTheEndOfTheBattery();
        promise12ShortestAndLongest();
        promise14FirstAndLastTime();
        promise17FirstAndLastRegisterAndNumber();
        promise18NoneAndAllPins();
        promise20NoneAndAllRows();
        promise21FirstAndLastMinute();
        promise23LeavesTextAndSlots();
        promise24AtEachLevel();
        promise25NowAndLongest();
        promise25ChangesNothing();
        promise26FirstAndLastCharge();
        promise27SmallestAndLargest();
        promise27AtTheEndOfTheBattery();
        promise28SmallestAndLargest();
        promise28AtTheEndOfTheBattery();
        promise31And32FirstAndLastSlot();
        promise32OverALossAndBack();
    }

    private static void promise1IsWhereUndoEnds() {
        BrownClock clock = new BrownClock();
        String fresh = View.of(clock);
        clock.pass(1440);
        clock.level(0);
        clock.battery(0);
        clock.age(-500);
        clock.setAlarm(3, 0);
        for (int left = 4; left >= 0; left--) {
            clock.undo();
        }
        Check.due("the clock at the end of undo", View.of(clock), fresh);
        Check.due("errorPosition of a new clock", clock.errorPosition(), 0);
    }

    private static void promise2EveryCode() {
        for (int c = 0; c <= 255; c++) {
            BrownClock clock = new BrownClock();
            Check.due("append(" + c + ")", clock.append(c), 1);
            Check.due("errorPosition of the code " + c, clock.errorPosition(), c == 'K' ? 1 : 0);
            Check.due("clearText of the code " + c, clock.clearText(), 1);
        }
    }

    private static void promise2FullText() {
        BrownClock clock = View.typed(Whole.FULL_TEXT.substring(0, 58));
        Check.due("the 59th character", clock.append('9'), 59);
        Check.due("the 60th character", clock.append('9'), 60);
        for (int k = 0; k < 3; k++) {
            Check.refuses("the 61st character", IllegalStateException.class, () -> clock.append('x'));
            Check.due("errorPosition of the text that was full", clock.errorPosition(), NONE);
        }
        Check.due("load of the text that was full", clock.load(), 4);
    }

    private static void promise3EmptyAndFullText() {
        BrownClock clock = new BrownClock();
        Check.due("clearText of the empty text", clock.clearText(), 0);
        View.type(clock, Whole.FULL_TEXT);
        Check.due("clearText of the full text", clock.clearText(), 60);
        Check.due("clearText of the emptied text", clock.clearText(), 0);
        Check.due("errorPosition of the emptied text", clock.errorPosition(), 0);
        Check.refuses("load of the emptied text", IllegalStateException.class, clock::load);
        for (int length = 1; length <= 60; length++) {
            Check.due("append to the emptied text", clock.append('K'), length);
        }
    }

    /** The full text is allowed; each of its beginnings is cut off at its end, or is a text itself. */
    private static void promise4FullText() {
        Check.due("the length of the full text", Whole.FULL_TEXT.length(), 60);
        Check.due("errorPosition of the full text", View.typed(Whole.FULL_TEXT).errorPosition(), NONE);
        int[] whole = {9, 14, 19, 24, 29, 31, 33, 35, 40, 45, 50, 55, 60};
        int next = 0;
        for (int length = 0; length <= 60; length++) {
            boolean isWhole = length == whole[next];
            next += isWhole ? 1 : 0;
            Check.due("errorPosition of " + length + " characters of it",
                    View.typed(Whole.FULL_TEXT.substring(0, length)).errorPosition(), isWhole ? NONE : length);
        }
        String head = "K+0000000" + "a0000a0000a0000a0000" + "p0p1p2" + "r0000r1000r2000r3000";
        Check.due("a full text that ends too soon", View.typed(head + "r4" + "00").errorPosition(), 59);
        Check.due("a full text whose last character is not allowed", View.typed(head + "r425x").errorPosition(), 59);
        Check.due("a full text whose last digit is too large", View.typed(head + "r4256").errorPosition(), 59);
        Check.due("a full text whose last digit is the largest", View.typed(head + "r4255").errorPosition(), NONE);
    }

    private static void promise5FullText() {
        BrownClock clock = View.typed(Whole.FULL_TEXT);
        Check.due("load of the full text", clock.load(), 4);
        Check.due("the clock of the full text", View.of(clock),
                "about 0 0 0 -123 0 0 0 9 900 0 0 0 0 0 0 account 0 0 0 0 0 0 registers 1 2 0 255 0 100 0 99"
                + " guards 1 1 1 rows alarms 0/0/0 151/0/0 720/0/0 1439/0/0");
        Check.due("load keeps the full text", clock.clearText(), 60);
    }

    private static void promise5InEachDomain() {
        String fresh = Whole.drained(View.loaded(Whole.FULL_TEXT));
        for (int domain = 0; domain <= 3; domain++) {
            BrownClock clock = Whole.in(domain);
            Check.due("load in domain " + domain, clock.load(), 4);
            Check.due("the clock that is loaded in domain " + domain, Whole.drained(clock), fresh);
        }
    }

    private static void promise5NumberOfAlarms() {
        StringBuilder text = new StringBuilder("K+0000000");
        for (int alarms = 0; alarms <= 4; alarms++) {
            BrownClock clock = View.typed(text.toString());
            Check.due("load with " + alarms + " alarms", clock.load(), alarms);
            for (int i = 0; i < 4; i++) {
                Check.due("alarm " + i + " of " + alarms, clock.alarm(i, 0), i < alarms ? 0 : NONE);
            }
            text.append("a0000");
        }
    }

    private static void promise6And7LastNumbers() {
        BrownClock clock = View.loaded("K+0000001");
        clock.level(0);
        clock.pass(3);
        clock.level(6);
        clock.battery(0);
        clock.level(0);
        Check.due("about(0), the first number", clock.about(0), 3);
        Check.due("about(14), the last number", clock.about(14), 2);
        Check.due("account(0), the first number", clock.account(0), 0);
        Check.due("account(5), the last number", clock.account(5), 0);
    }

    private static void promise10FirstAndLastRow() {
        BrownClock clock = View.loaded("K+0000500p0p1p2");
        for (int rows = 0; rows <= 6; rows++) {
            int none = rows;
            Check.refuses("row(" + none + ", 0)", IndexOutOfBoundsException.class, () -> clock.row(none, 0));
            for (int j = 0; j < rows; j++) {
                Check.due("row " + j + " of " + rows, View.rowOf(clock, j), j % 3 + "/" + 60 * j + "/0");
            }
            clock.tamper(rows % 3);
            clock.pass(1);
        }
    }

    private static void promise12OverTheEndOfTheBattery() {
        int[] charges = {1441, 1440, 1439, 1, 0};
        int[] seconds = {86400, 0, 0, 0, 0};
        for (int k = 0; k < charges.length; k++) {
            BrownClock clock = View.loaded(String.format("K+000%04d", charges[k]));
            clock.level(0);
            int lasts = Math.min(1440, charges[k]);
            Check.due("pass(1440) with the charge " + charges[k], clock.pass(1440), seconds[k]);
            Check.due("the charge then", clock.about(8), charges[k] - lasts);
            Check.due("the domain then", clock.about(9), k == 0 ? 2 : 3);
            Check.due("minutes in domain 2", clock.account(2), lasts);
            Check.due("minutes in domain 3", clock.account(3), 1440 - lasts);
            Check.due("minutes of the world", clock.about(0), 1440);
            Check.due("losses", clock.about(14), k == 0 ? 0 : 1);
        }
    }

    private static void promise12ShortestAndLongest() {
        BrownClock once = View.loaded("K-4321000a0001a2359");
        BrownClock often = View.loaded("K-4321000a0001a2359");
        Check.due("pass(1)", once.pass(1), 60);
        once.undo();
        Check.due("pass(1440)", once.pass(1440), 86400 - 37);
        for (int m = 1; m <= 40; m++) {
            often.pass(36);
        }
        Check.due("40 times 36 minutes are 1440", View.of(often), View.of(once));
        Check.due("but as one action", once.undo(), 0);
        Check.due("and as 40", often.undo(), 13);
    }

    private static void promise14FirstAndLastTime() {
        BrownClock clock = new BrownClock();
        Check.due("setTime(0)", clock.setTime(0), 0);
        Check.due("the time is valid, of 0 too", clock.about(6), 1);
        Check.due("setTime(99999999)", clock.setTime(99999999), 0);
        Check.due("setTime(99999998)", clock.setTime(99999998), 99999999);
        Check.due("setTime(1)", clock.setTime(1), 99999998);
        Check.due("C", clock.about(1), 1);
    }

    private static void promise17FirstAndLastRegisterAndNumber() {
        for (int r = 0; r <= 7; r += 7) {
            BrownClock clock = new BrownClock();
            Check.due("write(" + r + ", 255)", clock.write(r, 255), 0);
            Check.due("register(" + r + ")", clock.register(r), 255);
            Check.due("the neighbour", clock.register(r == 0 ? 1 : 6), 0);
            Check.due("write(" + r + ", 0)", clock.write(r, 0), 255);
            Check.due("register(" + r + ") then", clock.register(r), 0);
        }
    }

    private static void promise18NoneAndAllPins() {
        BrownClock clock = new BrownClock();
        Check.due("none of none", clock.guard(0, false), 0);
        for (int p = 0; p <= 2; p++) {
            Check.due("guard(" + p + ", true)", clock.guard(p, true), p + 1);
        }
        for (int p = 0; p <= 2; p++) {
            Check.due("guard(" + p + ", false)", clock.guard(p, false), 2 - p);
        }
    }

    private static void promise20NoneAndAllRows() {
        BrownClock clock = View.loaded("K+0000500p2");
        for (int rows = 0; rows <= 8; rows++) {
            for (int k = 0; k < rows; k++) {
                clock.tamper(2);
            }
            Check.due("clearRows after " + rows, clock.clearRows(), Math.min(rows, 6));
            Check.due("clearRows at once again", clock.clearRows(), 0);
        }
    }

    private static void promise21FirstAndLastMinute() {
        for (int i = 0; i <= 3; i += 3) {
            BrownClock clock = new BrownClock();
            clock.age(0);
            clock.setTime(1438 * 60);
            Check.due("setAlarm(" + i + ", 1439)", clock.setAlarm(i, 1439), NONE);
            clock.pass(1);
            Check.due("it rang at the last minute of the day", clock.alarm(i, 2), 1);
            Check.due("setAlarm(" + i + ", 0)", clock.setAlarm(i, 0), 1439);
            clock.pass(1);
            Check.due("it rang at the first minute of the day", clock.alarm(i, 2), 2);
            Check.due("setAlarm(" + i + ", 1440)", clock.setAlarm(i, 1440), 0);
            Check.due("it is not set", View.alarmOf(clock, i), NONE + "/0/2");
            clock.pass(1440);
            Check.due("it rang no more", clock.about(12), 2);
            Check.due("setAlarm of one that is not set", clock.setAlarm(i, 0), NONE);
        }
    }

    private static void promise23LeavesTextAndSlots() {
        for (int domain = 0; domain <= 3; domain++) {
            BrownClock clock = Whole.in(domain);
            for (int left = 13; left >= 0; left--) {
                Check.due("undo in domain " + domain, clock.undo(), left);
            }
            clock.save(1);
            String oldest = View.of(clock);
            Check.due("errorPosition after all undos", clock.errorPosition(), NONE);
            clock.restore(0);
            Check.due("slot 0 after all undos", clock.about(0) + clock.about(1), 5000);
            clock.restore(1);
            Check.due("slot 1 after all undos", View.of(clock), oldest);
        }
    }

    private static void promise24AtEachLevel() {
        int[] charged = {2, 2, 2, 1, 1, 1, 0, 0, 0, 0};
        for (int level = 0; level <= 9; level++) {
            BrownClock clock = View.loaded("K+1000001");
            clock.level(level);
            Check.due("whyNot at level " + level, clock.whyNot(), charged[level]);
            Class<?> thrown = Check.thrownBy(() -> clock.write(0, 0));
            Check.due("write at level " + level + " is allowed", thrown == null, charged[level] == 0);
            clock.battery(0);
            Check.due("whyNot without a charge at level " + level, clock.whyNot(), level >= 6 ? 0 : 3);
        }
    }

    private static void promise25NowAndLongest() {
        int[] whats = {1, 2, 5, 8, 9, 12};
        for (int domain = 0; domain <= 3; domain++) {
            for (int m : new int[] {0, 1, 1439, 1440}) {
                BrownClock later = Whole.in(domain);
                if (m > 0) {
                    later.pass(m);
                }
                BrownClock clock = Whole.in(domain);
                for (int what = 0; what <= 5; what++) {
                    Check.due("ahead(" + m + ", " + what + ") in domain " + domain, clock.ahead(m, what),
                            later.about(whats[what]));
                }
            }
        }
    }

    /** All forecasts, scripts, simulations and questions leave the state, the memory, the slots and the text. */
    private static void promise25ChangesNothing() {
        for (int domain = 0; domain <= 3; domain++) {
            BrownClock clock = Whole.in(domain);
            clock.errorPosition();
            clock.whyNot();
            clock.ahead(0, 5);
            clock.ahead(1440, 0);
            clock.endsAfter();
            clock.dueAfter(0);
            clock.dueAfter(3);
            clock.bestCorrection(1);
            clock.bestCorrection(600);
            clock.runScript(1, 0);
            clock.runScript(3, 47001_50000_11440L);
            clock.runScript(3, 20009_30500_63000L);
            clock.runScript(3, 20000_11440_70003L);
            clock.simulate(Long.MIN_VALUE, 1);
            clock.simulate(Long.MAX_VALUE, 60);
            Check.due("behind all forecasts in domain " + domain + " the clock", Whole.drained(clock),
                    Whole.drained(Whole.in(domain)));
        }
    }

    private static void promise26FirstAndLastCharge() {
        for (int charge : new int[] {9999, 1440, 2, 1, 0}) {
            for (int level = 2; level <= 3; level++) {
                BrownClock clock = View.loaded(String.format("K+000%04d", charge));
                Check.due("endsAfter in domain 0", clock.endsAfter(), NONE);
                clock.level(level);
                Check.due("endsAfter with the charge " + charge, clock.endsAfter(), charge);
                if (charge >= 1 && charge <= 1440) {
                    Check.due("the domain then", clock.ahead(charge, 4), 3);
                    Check.due("the domain a minute ahead of it", clock.ahead(charge - 1, 4), level == 3 ? 1 : 2);
                }
                clock.level(6);
                Check.due("endsAfter in domain 0 again", clock.endsAfter(), NONE);
            }
        }
    }

    private static void promise27SmallestAndLargest() {
        BrownClock clock = View.loaded("K-0000500a0000a0001");
        Check.due("the next minute", clock.dueAfter(1), 1);
        Check.due("a day", clock.dueAfter(0), 1440);
        clock.correct(500);
        Check.due("a day of a slow clock", clock.dueAfter(0), 1441);
        clock.age(-500);
        Check.due("a day of the slowest clock", clock.dueAfter(0), 1442);
        clock.pass(1440);
        Check.due("two minutes of it are left", clock.dueAfter(0), 2);
        clock.pass(1);
        Check.due("a minute of it is left", clock.dueAfter(0), 1);
        Check.due("it did not ring yet", clock.alarm(0, 2), 0);
        clock.pass(1);
        Check.due("it rang", clock.alarm(0, 2), 1);
        BrownClock fast = View.loaded("K+5000500a0000");
        fast.correct(-500);
        fast.setTime(59);
        Check.due("a day of the fastest clock", fast.dueAfter(0), 1438);
        Check.due("an alarm that is not set", fast.dueAfter(1), NONE);
    }

    private static void promise27AtTheEndOfTheBattery() {
        BrownClock clock = View.loaded("K+0000500a0010a0000");
        clock.level(2);
        int[] charges = {0, 1, 9, 10, 11, 1440, 1441};
        int[] ten = {NONE, NONE, NONE, NONE, 10, 10, 10};
        int[] day = {NONE, NONE, NONE, NONE, NONE, NONE, 1440};
        for (int k = 0; k < charges.length; k++) {
            clock.battery(charges[k]);
            Check.due("dueAfter(0) with the charge " + charges[k], clock.dueAfter(0), ten[k]);
            Check.due("dueAfter(1) with the charge " + charges[k], clock.dueAfter(1), day[k]);
        }
    }

    private static void promise28SmallestAndLargest() {
        BrownClock clock = View.loaded("K+0000500");
        clock.pass(1440);
        int world = 1440 * 60;
        clock.setTime(world + 18);
        Check.due("18 seconds ahead", clock.bestCorrection(600), 500);
        clock.setTime(world + 17);
        Check.due("17 seconds ahead", clock.bestCorrection(600), 473);
        clock.setTime(world + 19);
        Check.due("19 seconds ahead", clock.bestCorrection(600), 500);
        clock.setTime(world - 18);
        Check.due("18 seconds behind", clock.bestCorrection(600), -500);
        clock.setTime(world - 17);
        Check.due("17 seconds behind", clock.bestCorrection(600), -473);
        clock.setTime(world - 19);
        Check.due("19 seconds behind", clock.bestCorrection(600), -500);
        clock.setTime(world);
        Check.due("not behind nor ahead", clock.bestCorrection(1), 0);
        clock.age(28);
        Check.due("the nearest to 0 of those that win no second", clock.bestCorrection(600), 1);
        clock.age(-28);
        Check.due("the nearest to 0 of those that lose no second", clock.bestCorrection(600), -1);
        clock.age(27);
        Check.due("no second is won", clock.bestCorrection(600), 0);
        clock.setTime(world + 1);
        clock.age(0);
        Check.due("a second ahead, for a minute", clock.bestCorrection(1), 0);
        Check.due("a second ahead, for 33 minutes", clock.bestCorrection(33), 0);
        Check.due("a second ahead, for 34 minutes", clock.bestCorrection(34), 491);
    }

    private static void promise28AtTheEndOfTheBattery() {
        for (int level = 2; level <= 3; level++) {
            BrownClock clock = View.loaded("K+5000500");
            clock.level(level);
            clock.battery(601);
            Check.due("the battery lasts longer", clock.bestCorrection(600), 473);
            clock.battery(600);
            Check.due("the battery ends in the last minute", clock.bestCorrection(600), 0);
            Check.due("a minute less", clock.bestCorrection(599), 473);
            clock.battery(1);
            Check.due("the battery ends in the first minute", clock.bestCorrection(1), 0);
            clock.battery(0);
            Check.due("the battery is empty", clock.bestCorrection(1), 0);
            clock.level(6);
            Check.due("it is not needed", clock.bestCorrection(600), 473);
        }
    }

    private static void promise31And32FirstAndLastSlot() {
        BrownClock clock = new BrownClock();
        Check.due("save(0)", clock.save(0), 0);
        clock.pass(7);
        Check.due("save(1)", clock.save(1), 7);
        clock.pass(1);
        Check.due("restore(0)", clock.restore(0), 0);
        Check.due("C of slot 0", clock.about(1), 0);
        Check.due("restore(1)", clock.restore(1), 7);
        Check.due("C of slot 1", clock.about(1), 420);
        clock.pass(1);
        Check.due("save(1) over what it has", clock.save(1), 8);
        Check.due("restore(0) then", clock.restore(0), 0);
        Check.due("restore(1) then", clock.restore(1), 8);
    }

    /** A state comes back as it was: nothing rings and nothing is lost because its domain is another one. */
    private static void promise32OverALossAndBack() {
        for (int from = 0; from <= 3; from++) {
            for (int to = 0; to <= 3; to++) {
                BrownClock clock = Whole.in(to);
                String want = View.of(clock);
                clock.save(0);
                clock.level(from == 0 ? 6 : from == 1 ? 3 : 0);
                clock.battery(from == 3 ? 0 : 500);
                clock.pass(2);
                Check.due("the domain between", clock.about(9), from);
                clock.restore(0);
                Check.due("the clock from domain " + from + " back to domain " + to, View.of(clock), want);
            }
        }
    }
}
