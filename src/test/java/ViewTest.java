/** Promises 1 and 6 to 11: a new object, about, account, register, isGuarded, row, alarm. */
final class ViewTest {
    private static final int[] FAR = {Integer.MIN_VALUE, -1, Integer.MAX_VALUE};

    private ViewTest() {
    }

    static void run() {
        promise1NewObject();
        promise6About();
        promise7Account();
        promise8Register();
        promise9IsGuarded();
        promise10Row();
        promise11Alarm();
    }

    private static void promise1NewObject() {
        BrownClock clock = new BrownClock();
        Check.due("a new clock", View.of(clock),
                "about 0 0 0 100 0 0 0 9 1000 0 0 0 0 0 0 account 0 0 0 0 0 0 registers 0 0 0 0 0 0 0 0"
                + " guards 0 0 0 rows alarms -99999999/0/0 -99999999/0/0 -99999999/0/0 -99999999/0/0");
        Check.due("the text of a new clock", clock.clearText(), 0);
        Check.refuses("undo of a new clock", IllegalStateException.class, clock::undo);
        Check.refuses("restore(0) of a new clock", IllegalStateException.class, () -> clock.restore(0));
        Check.refuses("restore(1) of a new clock", IllegalStateException.class, () -> clock.restore(1));
        BrownClock other = new BrownClock();
        other.write(0, 1);
        Check.due("two clocks share nothing", clock.register(0), 0);
    }

    /** A clock on which hardly a number is what it is on a new one. */
    private static BrownClock used() {
        BrownClock clock = View.loaded("K-4000095a0001a0003a0016p0p2r0111");
        clock.setTime(119);
        clock.pass(13);
        clock.correct(90);
        for (int k = 0; k < 9; k++) {
            clock.tamper(k % 2 == 0 ? 0 : 2);
        }
        clock.write(5, 55);
        clock.level(4);
        clock.pass(7);
        clock.level(2);
        clock.pass(30);
        return clock;
    }

    private static void promise6About() {
        BrownClock clock = used();
        int[] want = {50, 3118, -399800, -400, 90, 118, 1, 2, 58, 2, 6, 9, 1, 1, 0};
        for (int what = 0; what < want.length; what++) {
            Check.due("about(" + what + ")", clock.about(what), want[what]);
        }
        for (int what : new int[] {Integer.MIN_VALUE, -1, 15, Integer.MAX_VALUE}) {
            Check.refuses("about(" + what + ")", IllegalArgumentException.class, () -> clock.about(what));
        }
    }

    private static void promise7Account() {
        BrownClock clock = used();
        clock.level(1);
        clock.pass(60);
        long[] want = {13, 7, 88, 2, 37 * 5400 + 57 * 5400, 13 * -24000L + 94 * -29400L};
        for (int what = 0; what < want.length; what++) {
            Check.due("account(" + what + ")", clock.account(what), want[what]);
        }
        for (int what : new int[] {Integer.MIN_VALUE, -1, 6, Integer.MAX_VALUE}) {
            Check.refuses("account(" + what + ")", IllegalArgumentException.class, () -> clock.account(what));
        }
    }

    private static void promise8Register() {
        BrownClock clock = View.loaded("K+1000500r0001r1002r2003r3004r4005r5006r6007r7008");
        for (int r = 0; r < 8; r++) {
            Check.due("register(" + r + ")", clock.register(r), r + 1);
        }
        Check.refuses("register(8)", IndexOutOfBoundsException.class, () -> clock.register(8));
        for (int r : FAR) {
            Check.refuses("register(" + r + ")", IndexOutOfBoundsException.class, () -> clock.register(r));
        }
    }

    private static void promise9IsGuarded() {
        for (int guarded = 0; guarded < 3; guarded++) {
            BrownClock clock = View.loaded("K+1000500p" + guarded);
            for (int p = 0; p < 3; p++) {
                Check.due("isGuarded(" + p + ")", clock.isGuarded(p), p == guarded);
            }
        }
        BrownClock clock = new BrownClock();
        Check.refuses("isGuarded(3)", IndexOutOfBoundsException.class, () -> clock.isGuarded(3));
        for (int p : FAR) {
            Check.refuses("isGuarded(" + p + ")", IndexOutOfBoundsException.class, () -> clock.isGuarded(p));
        }
    }

    private static void promise10Row() {
        BrownClock clock = View.loaded("K+0000500p1p2");
        Check.refuses("row(0, 9) without rows", IndexOutOfBoundsException.class, () -> clock.row(0, 9));
        clock.pass(3);
        clock.tamper(2);
        clock.level(5);
        clock.pass(1);
        clock.tamper(1);
        clock.level(0);
        clock.tamper(2);
        Check.due("row 0", View.rowOf(clock, 0), "2/180/0");
        Check.due("row 1", View.rowOf(clock, 1), "1/240/1");
        Check.due("row 2", View.rowOf(clock, 2), "2/240/2");
        Check.refuses("row(3, 0)", IndexOutOfBoundsException.class, () -> clock.row(3, 0));
        Check.refuses("row(3, 3)", IndexOutOfBoundsException.class, () -> clock.row(3, 3));
        Check.refuses("row(2, 3)", IllegalArgumentException.class, () -> clock.row(2, 3));
        Check.refuses("row(2, -1)", IllegalArgumentException.class, () -> clock.row(2, -1));
        for (int j : FAR) {
            Check.refuses("row(" + j + ", 0)", IndexOutOfBoundsException.class, () -> clock.row(j, 0));
        }
    }

    private static void promise11Alarm() {
        BrownClock clock = View.loaded("K+0000500a0001a0002a1230");
        clock.pass(1);
        clock.level(3);
        clock.pass(2);
        Check.due("an alarm that rang", View.alarmOf(clock, 0), "1/0/1");
        Check.due("an alarm that waits", View.alarmOf(clock, 1), "2/1/0");
        Check.due("an alarm that is still to come", View.alarmOf(clock, 2), "750/0/0");
        Check.due("an alarm that is not set", View.alarmOf(clock, 3), BrownClock.NONE + "/0/0");
        Check.refuses("alarm(4, 0)", IndexOutOfBoundsException.class, () -> clock.alarm(4, 0));
        Check.refuses("alarm(4, 3)", IndexOutOfBoundsException.class, () -> clock.alarm(4, 3));
        Check.refuses("alarm(3, 3)", IllegalArgumentException.class, () -> clock.alarm(3, 3));
        Check.refuses("alarm(0, -1)", IllegalArgumentException.class, () -> clock.alarm(0, -1));
        for (int i : FAR) {
            Check.refuses("alarm(" + i + ", 0)", IndexOutOfBoundsException.class, () -> clock.alarm(i, 0));
        }
    }
}
