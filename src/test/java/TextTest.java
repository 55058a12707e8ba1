import java.util.Random;
import java.util.regex.Matcher;
import java.util.regex.Pattern;

/** Promises 2 to 5: append, clearText, errorPosition, load. */
final class TextTest {
    private static final String HEAD = "K+1000500";
    private static final String ALL_REGISTERS = "r0000r1001r2010r3100r4199r5249r6250r7255";

    private static final Pattern PART = Pattern.compile(
            "a([01][0-9]|2[0-3])[0-5][0-9]|p[0-2]|r[0-7]([01][0-9][0-9]|2[0-4][0-9]|25[0-5])");
    private static final Pattern WHOLE = Pattern.compile(
            "K[+-]([0-4][0-9][0-9]|500)[0-9]{4}(" + PART.pattern() + ")*", Pattern.DOTALL);
    private static final String[] ENDINGS = {
        "", "0", "00", "000", "0000", "00000", "000000", "0000000", "+0000000", "K+0000000",
        "1", "2", "1000", "2000", "3000", "4000", "5000", "6000", "7000",
    };

    private TextTest() {
    }

    static void run() {
        promise2Append();
        promise3ClearText();
        promise4Head();
        promise4Alarms();
        promise4Pins();
        promise4Registers();
        promise4RandomTexts();
        promise4EveryCharacterAtEveryPlace();
        promise5Load();
        promise5LoadForgets();
        promise5LoadAfterForecasts();
        promise5LoadTwice();
        promise5LoadRefuses();
    }

    private static void promise2Append() {
        BrownClock clock = new BrownClock();
        for (int length = 1; length <= 60; length++) {
            Check.due("append", clock.append(length % 2 == 0 ? 0 : 255), length);
        }
        Check.refuses("append to a full text", IllegalStateException.class, () -> clock.append('K'));
        Check.refuses("append(-1) to a full text", IllegalArgumentException.class, () -> clock.append(-1));
        Check.refuses("append(256) to a full text", IllegalArgumentException.class, () -> clock.append(256));
        Check.due("the length is still", clock.clearText(), 60);
        Check.refuses("append(-1)", IllegalArgumentException.class, () -> clock.append(-1));
        Check.refuses("append(256)", IllegalArgumentException.class, () -> clock.append(256));
        Check.refuses("append(least int)", IllegalArgumentException.class, () -> clock.append(Integer.MIN_VALUE));
        Check.due("append after clearText", clock.append('K'), 1);
    }

    private static void promise3ClearText() {
        BrownClock clock = View.typed("K+1");
        Check.due("clearText", clock.clearText(), 3);
        Check.due("clearText again", clock.clearText(), 0);
        Check.due("errorPosition of the empty text", clock.errorPosition(), 0);
        View.type(clock, HEAD);
        Check.due("errorPosition of a new text", clock.errorPosition(), BrownClock.NONE);
    }

    private static void position(String text, int want) {
        Check.due("errorPosition of " + text, View.typed(text).errorPosition(), want);
    }

    private static void promise4Head() {
        position("", 0);
        position("k", 0);
        position("+", 0);
        position("K", 1);
        position("K*", 1);
        position("K1", 1);
        position("K+", 2);
        position("K+6", 2);
        position("K+/", 2);
        position("K+:", 2);
        position("K++", 2);
        position("K+5", 3);
        position("K+51", 3);
        position("K+50", 4);
        position("K+501", 4);
        position("K+500", 5);
        position("K-499", 5);
        position("K-0999", 6);
        position("K-099999", 8);
        position("K-09999999", 9);
        position("K+100x500", 5);
        position("K+5000000", BrownClock.NONE);
        position("K-5009999", BrownClock.NONE);
        position("K-0000000", BrownClock.NONE);
        position(HEAD + " ", 9);
        position(HEAD + "0", 9);
        position(HEAD + "A", 9);
        position(HEAD + (char) 0, 9);
        position(HEAD + (char) 255, 9);
        position(" " + HEAD, 0);
    }

    private static void promise4Alarms() {
        position(HEAD + "a", 10);
        position(HEAD + "a3", 10);
        position(HEAD + "a2", 11);
        position(HEAD + "a24", 11);
        position(HEAD + "a1", 11);
        position(HEAD + "a19", 12);
        position(HEAD + "a196", 12);
        position(HEAD + "a195", 13);
        position(HEAD + "a1959", BrownClock.NONE);
        position(HEAD + "a2359", BrownClock.NONE);
        position(HEAD + "a0000", BrownClock.NONE);
        position(HEAD + "a23599", 14);
        position(HEAD + "a0000a0000a0000a0000", BrownClock.NONE);
        position(HEAD + "a0000a0000a0000a0000a", 29);
        position(HEAD + "a0000a0000a0000a0000p0a", 31);
        position(HEAD + "a0000a0000a0000a0000p0r0000", BrownClock.NONE);
    }

    private static void promise4Pins() {
        position(HEAD + "p", 10);
        position(HEAD + "p3", 10);
        position(HEAD + "pp", 10);
        position(HEAD + "p2", BrownClock.NONE);
        position(HEAD + "p2p0p1", BrownClock.NONE);
        position(HEAD + "p2p2", 12);
        position(HEAD + "p2p0p2", 14);
        position(HEAD + "p2p0p1p", 15);
        position(HEAD + "p2p0p1a0000p", 20);
    }

    private static void promise4Registers() {
        position(HEAD + "r", 10);
        position(HEAD + "r8", 10);
        position(HEAD + "r7", 11);
        position(HEAD + "r73", 11);
        position(HEAD + "r726", 12);
        position(HEAD + "r7256", 13);
        position(HEAD + "r725", 13);
        position(HEAD + "r7255", BrownClock.NONE);
        position(HEAD + "r7249", BrownClock.NONE);
        position(HEAD + "r7199", BrownClock.NONE);
        position(HEAD + "r7000", BrownClock.NONE);
        position(HEAD + "r7000r7", 15);
        position(HEAD + "r7000r0000", BrownClock.NONE);
        position(HEAD + ALL_REGISTERS, BrownClock.NONE);
        position(HEAD + ALL_REGISTERS + "r", 49);
        position(HEAD + ALL_REGISTERS + "a0000p0p1p2", BrownClock.NONE);
        position(HEAD + ALL_REGISTERS + "a0000a0000a", 60);
    }

    /** A text with some character changed, and where no whole text begins with it any more. */
    private static void promise4RandomTexts() {
        Random random = new Random(4);
        String signs = "Kapr+-0123456789 x";
        for (int round = 0; round < 4000; round++) {
            StringBuilder text = new StringBuilder(random.nextBoolean() ? "K+" : "K-");
            text.append(random.nextInt(501) + 1000).deleteCharAt(2).append(random.nextInt(10000) + 10000).deleteCharAt(5);
            for (int part = random.nextInt(10); part > 0; part--) {
                text.append(randomPart(random));
            }
            if (random.nextInt(3) != 0) {
                text.setCharAt(random.nextInt(text.length()), signs.charAt(random.nextInt(signs.length())));
            }
            text.setLength(Math.min(60, random.nextBoolean() ? text.length() : random.nextInt(text.length())));
            position(text.toString(), slowPosition(text.toString()));
        }
    }

    /** Behind each beginning of some texts, each of the 256 characters: is it allowed there, and is it the text's end? */
    private static void promise4EveryCharacterAtEveryPlace() {
        String[] texts = {
            "K+5009999a2359a0000a1959p0p1p2r0255r1249r2199a0000", "K-4990000r7000r6250p2p1p0a2000a0100",
            HEAD + "a0000a0000a0000a0000p0p1p2r7000r6000r5000r4000r3", HEAD + ALL_REGISTERS + "p2p0p1",
        };
        for (String text : texts) {
            for (int length = 0; length <= text.length(); length++) {
                String beginning = text.substring(0, length);
                for (int c = 0; c <= 255; c++) {
                    String longer = beginning + (char) c;
                    int due = isWhole(longer) ? BrownClock.NONE : canGoOn(longer) ? length + 1 : length;
                    position(longer, due);
                }
            }
        }
    }

    private static String randomPart(Random random) {
        switch (random.nextInt(3)) {
            case 0:
                return String.format("a%02d%02d", random.nextInt(24), random.nextInt(60));
            case 1:
                return "p" + random.nextInt(3);
            default:
                return String.format("r%d%03d", random.nextInt(8), random.nextInt(256));
        }
    }

    private static int slowPosition(String text) {
        if (isWhole(text)) {
            return BrownClock.NONE;
        }
        for (int length = 1; length <= text.length(); length++) {
            if (!canGoOn(text.substring(0, length))) {
                return length - 1;
            }
        }
        return text.length();
    }

    private static boolean canGoOn(String beginning) {
        for (String ending : ENDINGS) {
            if (isWhole(beginning + ending)) {
                return true;
            }
        }
        return false;
    }

    private static boolean isWhole(String text) {
        if (!WHOLE.matcher(text).matches()) {
            return false;
        }
        int alarms = 0;
        StringBuilder told = new StringBuilder();
        Matcher parts = PART.matcher(text.substring(9));
        while (parts.find()) {
            String part = parts.group();
            if (part.charAt(0) == 'a') {
                alarms++;
            } else if (told.indexOf(part.substring(0, 2)) >= 0) {
                return false;
            } else {
                told.append(part, 0, 2);
            }
        }
        return alarms <= 4;
    }

    private static void promise5Load() {
        BrownClock clock = View.typed("K-3210042a2359p2r7255a0000r0001");
        Check.due("load", clock.load(), 2);
        Check.due("the clock that is loaded", View.of(clock),
                "about 0 0 0 -321 0 0 0 9 42 0 0 0 0 0 0 account 0 0 0 0 0 0 registers 1 0 0 0 0 0 0 255"
                + " guards 0 0 1 rows alarms 1439/0/0 0/0/0 -99999999/0/0 -99999999/0/0");
        Check.due("load keeps the text", clock.clearText(), 31);
        Check.due("error and charge at their ends", View.of(View.loaded("K+5009999a0001a0100a1000a2000")),
                "about 0 0 0 500 0 0 0 9 9999 0 0 0 0 0 0 account 0 0 0 0 0 0 registers 0 0 0 0 0 0 0 0"
                + " guards 0 0 0 rows alarms 1/0/0 60/0/0 600/0/0 1200/0/0");
        Check.due("an empty battery in the domain 0 is no loss", View.of(View.loaded("K-0000000p0p1")),
                "about 0 0 0 0 0 0 0 9 0 0 0 0 0 0 0 account 0 0 0 0 0 0 registers 0 0 0 0 0 0 0 0"
                + " guards 1 1 0 rows alarms -99999999/0/0 -99999999/0/0 -99999999/0/0 -99999999/0/0");
        Check.due("load without alarms", View.typed(HEAD).load(), 0);
        Check.due("load with four alarms", View.typed(HEAD + "a0000a0000a0000a0000").load(), 4);
    }

    private static void promise5LoadForgets() {
        BrownClock clock = View.typed(HEAD + "a0001p1r3200");
        clock.load();
        String fresh = View.of(clock);
        clock.pass(10);
        clock.correct(-7);
        clock.age(3);
        clock.guard(0, true);
        clock.tamper(0);
        clock.setAlarm(3, 5);
        clock.level(0);
        clock.battery(1);
        clock.save(0);
        clock.save(1);
        clock.pass(20);
        Check.due("load after actions", clock.load(), 1);
        Check.due("the clock that is loaded again", View.of(clock), fresh);
        Check.refuses("undo after load", IllegalStateException.class, clock::undo);
        Check.refuses("restore(0) after load", IllegalStateException.class, () -> clock.restore(0));
        Check.refuses("restore(1) after load", IllegalStateException.class, () -> clock.restore(1));
    }

    /** Forecasts and scripts go through states of their own, of which nothing may come into the one that is loaded. */
    private static void promise5LoadAfterForecasts() {
        BrownClock clock = View.typed(HEAD + "a0001p1r0200");
        clock.load();
        String fresh = View.of(clock);
        clock.pass(10);
        clock.level(0);
        clock.pass(3);
        clock.battery(0);
        clock.pass(3);
        clock.battery(9);
        clock.level(4);
        clock.pass(1);
        clock.setAlarm(1, 2);
        clock.pass(1);
        clock.level(9);
        clock.guard(0, true);
        clock.correct(-7);
        clock.setTime(100);
        clock.tamper(0);
        for (int r = 0; r < 8; r++) {
            clock.write(r, 99);
        }
        clock.pass(10);
        clock.ahead(10, 0);
        Check.due("load after ahead", clock.load(), 1);
        Check.due("the clock that is loaded after ahead", View.of(clock), fresh);
    }

    private static void promise5LoadTwice() {
        for (String parts : new String[] {ALL_REGISTERS, "r0001", "p0p1p2", "a0001a0002a0003a0004"}) {
            BrownClock clock = View.typed(HEAD + parts);
            int set = clock.load();
            String fresh = View.of(clock);
            Check.due("errorPosition again", clock.errorPosition(), BrownClock.NONE);
            Check.due("load again", clock.load(), set);
            Check.due("the clock that is loaded again", View.of(clock), fresh);
            clock.append('x');
            Check.due("errorPosition with a fault", clock.errorPosition(), 9 + parts.length());
        }
    }

    private static void promise5LoadRefuses() {
        for (String text : new String[] {"", HEAD.substring(0, 8), HEAD + "p", HEAD + "r0000p3"}) {
            BrownClock clock = View.typed(text);
            clock.pass(5);
            clock.write(2, 9);
            clock.save(1);
            clock.write(2, 10);
            Check.refuses("load of " + text, IllegalStateException.class, clock, clock::load);
            Check.due("a load that is refused keeps the states", clock.undo(), 2);
            Check.due("a load that is refused keeps the slots", clock.restore(1), 5);
            Check.due("a load that is refused keeps the text", clock.clearText(), text.length());
        }
    }
}
