/** Makes clocks for the tests, and writes down all that a clock tells. */
final class View {
    private View() {
    }

    static BrownClock typed(String text) {
        BrownClock clock = new BrownClock();
        type(clock, text);
        return clock;
    }

    static void type(BrownClock clock, String text) {
        for (int i = 0; i < text.length(); i++) {
            clock.append(text.charAt(i));
        }
    }

    static BrownClock loaded(String text) {
        BrownClock clock = typed(text);
        clock.load();
        return clock;
    }

    /** Everything but the text, the slots and the remembered states; at most 69 calls. */
    static String of(BrownClock clock) {
        StringBuilder all = new StringBuilder("about");
        for (int what = 0; what <= 14; what++) {
            all.append(' ').append(clock.about(what));
        }
        all.append(" account");
        for (int what = 0; what <= 5; what++) {
            all.append(' ').append(clock.account(what));
        }
        all.append(" registers");
        for (int r = 0; r < 8; r++) {
            all.append(' ').append(clock.register(r));
        }
        all.append(" guards");
        for (int p = 0; p < 3; p++) {
            all.append(' ').append(clock.isGuarded(p) ? 1 : 0);
        }
        all.append(" rows");
        for (int j = 0; j < clock.about(10); j++) {
            all.append(' ').append(rowOf(clock, j));
        }
        all.append(" alarms");
        for (int i = 0; i < 4; i++) {
            all.append(' ').append(alarmOf(clock, i));
        }
        return all.toString();
    }

    static String rowOf(BrownClock clock, int j) {
        return clock.row(j, 0) + "/" + clock.row(j, 1) + "/" + clock.row(j, 2);
    }

    static String alarmOf(BrownClock clock, int i) {
        return clock.alarm(i, 0) + "/" + clock.alarm(i, 1) + "/" + clock.alarm(i, 2);
    }
}
