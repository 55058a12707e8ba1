/** Promises 13 and 22: level, battery; the terms SUPPLY and A MINUTE. */
final class SupplyTest {
    private SupplyTest() {
    }

    static void run() {
        promise13Domains();
        promise13Level();
        promise22Battery();
        minuteInEachDomain();
        lossByMinute();
        lossKeeps();
        lossIsCountedWhenTheDomainBecomes3();
        refusals();
    }

    private static void promise13Domains() {
        int[] charged = {2, 2, 2, 1, 1, 1, 0, 0, 0, 0};
        int[] empty = {3, 3, 3, 3, 3, 3, 0, 0, 0, 0};
        for (int level = 0; level <= 9; level++) {
            Check.due("level(" + level + ")", View.loaded("K+1000001").level(level), charged[level]);
            BrownClock clock = View.loaded("K+1000000");
            Check.due("level(" + level + ") with an empty battery", clock.level(level), empty[level]);
            Check.due("about(9)", clock.about(9), empty[level]);
            Check.due("about(7)", clock.about(7), level);
            Check.due("losses", clock.about(14), empty[level] == 3 ? 1 : 0);
            Check.due("undo of level", clock.undo(), 0);
            Check.due("the level is back", clock.about(7), 9);
        }
    }

    private static void promise13Level() {
        BrownClock clock = View.loaded("K+1000005");
        clock.setTime(1000);
        clock.write(1, 11);
        Check.due("level(0)", clock.level(0), 2);
        Check.due("C stays", clock.about(1), 1000);
        Check.due("the register stays", clock.register(1), 11);
        Check.due("the time stays valid", clock.about(6), 1);
        Check.due("level(9)", clock.level(9), 0);
    }

    private static void promise22Battery() {
        BrownClock clock = View.loaded("K+1000005");
        Check.due("battery(9999)", clock.battery(9999), 0);
        Check.due("the charge", clock.about(8), 9999);
        Check.due("battery(0) in domain 0", clock.battery(0), 0);
        Check.due("losses", clock.about(14), 0);
        Check.due("undo of battery", clock.undo(), 1);
        Check.due("the charge is back", clock.about(8), 9999);
        clock.setTime(50);
        clock.level(3);
        Check.due("battery(1) in domain 1", clock.battery(1), 1);
        Check.due("C", clock.about(1), 50);
        Check.due("battery(0) in domain 1", clock.battery(0), 3);
        Check.due("C is lost", clock.about(1), 0);
        Check.due("losses then", clock.about(14), 1);
        Check.due("battery(7) in domain 3", clock.battery(7), 1);
        Check.due("the time stays lost", clock.about(6), 0);
        Check.due("the clock goes on from 0", clock.pass(2), 120);
        Check.due("the offset", clock.about(5), 0);
        clock.level(2);
        Check.due("battery(0) in domain 2", clock.battery(0), 3);
        Check.due("losses at the end", clock.about(14), 2);
    }

    private static void minuteInEachDomain() {
        int[] levels = {6, 5, 2};
        for (int domain = 0; domain < 3; domain++) {
            BrownClock clock = View.loaded("K+5000100");
            clock.level(levels[domain]);
            Check.due("pass(34) in domain " + domain, clock.pass(34), 2041);
            Check.due("the charge", clock.about(8), domain == 0 ? 100 : 66);
            for (int other = 0; other < 4; other++) {
                Check.due("account(" + other + ")", clock.account(other), other == domain ? 34 : 0);
            }
            Check.due("account(5)", clock.account(5), 34 * 30000);
        }
        BrownClock dead = View.loaded("K+5000000a0000a0001");
        dead.level(0);
        Check.due("pass(34) in domain 3", dead.pass(34), 0);
        Check.due("the minutes of the world", dead.about(0), 34);
        Check.due("the offset", dead.about(5), -34 * 60);
        Check.due("the rest", dead.about(2), 0);
        Check.due("the charge", dead.about(8), 0);
        Check.due("account(3)", dead.account(3), 34);
        Check.due("account(5)", dead.account(5), 0);
        Check.due("alarms that wait", dead.about(13), 0);
    }

    private static void lossByMinute() {
        BrownClock clock = View.loaded("K+5000003a0002a0003");
        clock.correct(100);
        clock.level(4);
        Check.due("pass(2)", clock.pass(2), 120);
        Check.due("the charge", clock.about(8), 1);
        Check.due("an alarm waits", clock.about(13), 1);
        Check.due("the minute that empties the battery", clock.pass(1), 0);
        Check.due("the domain", clock.about(9), 3);
        Check.due("losses", clock.about(14), 1);
        Check.due("no alarm waits", clock.about(13), 0);
        Check.due("the minute counts for domain 1", clock.account(1), 3);
        Check.due("and not for domain 3", clock.account(3), 0);
        Check.due("the clock went on by two minutes", clock.account(4), 12000);
        Check.due("the clock drifted by two minutes", clock.account(5), 48000);
        Check.due("the rest", clock.about(2), 0);
        clock.pass(1);
        Check.due("the next one counts for domain 3", clock.account(3), 1);
        Check.due("losses stay", clock.about(14), 1);
        clock.level(9);
        Check.due("no alarm rings", clock.about(12), 0);
    }

    private static void lossKeeps() {
        BrownClock clock = View.loaded("K-0200009a0001a0030p0p2r7099");
        clock.correct(33);
        clock.setTime(500);
        clock.pass(30);
        clock.tamper(0);
        clock.write(4, 44);
        clock.setAlarm(3, 1000);
        clock.level(0);
        clock.battery(0);
        Check.due("the clock after a loss", View.of(clock),
                "about 30 0 0 -20 33 -1800 0 0 0 3 0 1 1 0 1 account 30 0 0 0 59400 -95400"
                + " registers 0 0 0 0 0 0 0 0 guards 1 0 1 rows"
                + " alarms 1/0/0 30/0/1 -99999999/0/0 1000/0/0");
        clock.battery(5);
        clock.tamper(2);
        Check.due("the first row after a loss", View.rowOf(clock, 0), "2/0/2");
    }

    private static void lossIsCountedWhenTheDomainBecomes3() {
        BrownClock clock = View.loaded("K+1000000");
        clock.level(5);
        clock.level(0);
        clock.battery(0);
        Check.due("one loss while it is dead", clock.about(14), 1);
        clock.level(9);
        clock.level(3);
        Check.due("another one", clock.about(14), 2);
        clock.undo();
        Check.due("undo takes it back", clock.about(14), 1);
    }

    private static void refusals() {
        for (int v : new int[] {Integer.MIN_VALUE, -1, 10, Integer.MAX_VALUE}) {
            BrownClock clock = new BrownClock();
            Check.refuses("level(" + v + ")", IllegalArgumentException.class, clock, () -> clock.level(v));
            Check.refuses("undo of it", IllegalStateException.class, clock::undo);
        }
        for (int charge : new int[] {Integer.MIN_VALUE, -1, 10000, Integer.MAX_VALUE}) {
            BrownClock clock = new BrownClock();
            Check.refuses("battery(" + charge + ")", IllegalArgumentException.class, clock, () -> clock.battery(charge));
            Check.refuses("undo of it", IllegalStateException.class, clock::undo);
        }
    }
}
