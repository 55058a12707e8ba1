import java.util.Random;

/** Long random runs on a clock and on the model; each run keeps to the 512 calls of an object. */
final class RandomRunTest {
    private static final int CALLS = 350;

    private final Random random;
    private final BrownClock clock;
    private final String name;
    private Model model;

    private RandomRunTest(int seed) {
        random = new Random(seed);
        name = "random run " + seed;
        String text = String.format("K%s%03d%04d", seed % 2 == 0 ? "+" : "-", random.nextInt(501),
                random.nextInt(3) == 0 ? random.nextInt(10000) : random.nextInt(40));
        clock = View.loaded(text);
        model = new Model();
        model.error = Integer.parseInt(text.substring(1, 5));
        model.charge = Integer.parseInt(text.substring(5));
    }

    static void run() {
        for (int seed = 1; seed <= 150; seed++) {
            new RandomRunTest(seed).play();
        }
    }

    private void play() {
        for (int k = 1; k <= CALLS && Check.failures() == 0; k++) {
            step();
            if (k == CALLS / 2 || k == CALLS) {
                Check.due(name + ", call " + k, View.of(clock), model.view());
            }
        }
    }

    /** One call on the clock, compared with the model's answer. */
    private void step() {
        switch (random.nextInt(6)) {
            case 0:
                playForecast();
                break;
            case 1:
                playKeeping();
                break;
            case 2:
                playView();
                break;
            default:
                playAction();
                break;
        }
    }

    private void due(String what, long got, long want) {
        Check.due(name + ": " + what, got, want);
    }

    private int near(int size) {
        return random.nextInt(2 * size + 1) - size;
    }

    private int somePass() {
        return random.nextInt(6) == 0 ? 1 + random.nextInt(1440) : 1 + random.nextInt(40);
    }

    private int someLevel() {
        return random.nextInt(2) == 0 ? 6 + random.nextInt(4) : random.nextInt(6);
    }

    private int someTime() {
        int world = (int) model.world * 60;
        return random.nextInt(8) == 0 ? random.nextInt(100000000) : Math.max(0, world + near(90));
    }

    private int someAlarm() {
        return random.nextInt(6) == 0 ? 1440 : (int) ((model.seconds / 60 + random.nextInt(60)) % 1440);
    }

    private void playView() {
        int what = random.nextInt(16);
        if (what == 15) {
            due("whyNot()", clock.whyNot(), model.domain());
            return;
        }
        due("about(" + what + ")", clock.about(what), model.about(what));
    }

    private void playForecast() {
        int m = random.nextInt(3) == 0 ? 1 + random.nextInt(600) : 1 + random.nextInt(60);
        switch (random.nextInt(7)) {
            case 0:
                due("endsAfter()", clock.endsAfter(), model.endsAfter());
                break;
            case 1:
                int i = random.nextInt(4);
                due("dueAfter(" + i + ")", clock.dueAfter(i), model.dueAfter(i));
                break;
            case 2:
                m = random.nextInt(8) == 0 ? m : 1 + m % 30;
                due("bestCorrection(" + m + ")", clock.bestCorrection(m), model.bestCorrection(m));
                break;
            case 3:
                long seed = random.nextLong();
                int rounds = 1 + m % 60;
                due("simulate(" + seed + ", " + rounds + ")", clock.simulate(seed, rounds), model.simulate(seed, rounds));
                break;
            case 4:
                int what = random.nextInt(6);
                due("ahead(" + m + ", " + what + ")", clock.ahead(m, what), model.ahead(m, what));
                break;
            default:
                playScript();
                break;
        }
    }

    private void playScript() {
        int n = 1 + random.nextInt(3);
        long script = 0;
        for (int k = 0; k < n; k++) {
            script = script * 100000 + someCommand();
        }
        due("runScript(" + n + ", " + script + ")", clock.runScript(n, script), model.runScript(n, script));
    }

    private int someCommand() {
        int digit = random.nextInt(10);
        int number = random.nextInt(600);
        switch (1 + random.nextInt(9)) {
            case 1:
                return 10000 + random.nextInt(1500);
            case 2:
                return 20000 + digit;
            case 3:
                return 30000 + 1000 * random.nextInt(2) + number;
            case 4:
                return 40000 + 1000 * digit + number / 2;
            case 5:
                return 50000 + digit / 3;
            case 6:
                return 60000 + 1000 * (digit / 2);
            case 7:
                return 70000 + random.nextInt(4);
            case 8:
                return 80000 + 1000 * (digit % 8) + model.registers[digit % 8];
            default:
                return random.nextInt(3) == 0 ? random.nextInt(100000) : 90000 + 1000 * random.nextInt(2) + number;
        }
    }

    private void playKeeping() {
        int slot = random.nextInt(2);
        switch (random.nextInt(6)) {
            case 0:
            case 1:
                due("save(" + slot + ")", clock.save(slot), model.world);
                model.slots[slot] = model.copy();
                break;
            case 2:
                playRestore(slot);
                break;
            default:
                playUndo();
                break;
        }
    }

    private void playRestore(int slot) {
        if (model.slots[slot] == null) {
            Check.refuses(name + ": restore(" + slot + ")", IllegalStateException.class, () -> clock.restore(slot));
            return;
        }
        model = model.become(model.slots[slot]);
        model.remembered.clear();
        due("restore(" + slot + ")", clock.restore(slot), model.world);
    }

    private void playUndo() {
        if (model.remembered.isEmpty()) {
            Check.refuses(name + ": undo()", IllegalStateException.class, clock::undo);
            return;
        }
        model = model.become(model.remembered.removeLast());
        due("undo()", clock.undo(), model.remembered.size());
    }

    private void playAction() {
        if (random.nextInt(3) != 0) {
            playAnywhere();
        } else if (model.domain() == 0) {
            playInMain();
        } else {
            playRefused();
        }
    }

    private void playAnywhere() {
        model.remember();
        int i = random.nextInt(4);
        switch (random.nextInt(10)) {
            case 0:
            case 1:
                int v = someLevel();
                model.setLevel(v);
                due("level(" + v + ")", clock.level(v), model.domain());
                break;
            case 2:
                int error = near(500);
                due("age(" + error + ")", clock.age(error), model.error);
                model.error = error;
                break;
            case 3:
                model.tamperAt(i % 3);
                due("tamper(" + i % 3 + ")", clock.tamper(i % 3), model.rows.size());
                break;
            case 4:
            case 5:
                int minute = someAlarm();
                due("setAlarm(" + i + ", " + minute + ")", clock.setAlarm(i, minute),
                        model.alarms[i] == null ? Model.NONE : model.alarms[i]);
                model.alarms[i] = minute == 1440 ? null : Integer.valueOf(minute);
                model.waits[i] = false;
                break;
            case 6:
                int charge = random.nextInt(4) == 0 ? random.nextInt(10000) : random.nextInt(60);
                model.setCharge(charge);
                due("battery(" + charge + ")", clock.battery(charge), model.domain());
                break;
            default:
                int m = somePass();
                model.minutes(m);
                due("pass(" + m + ")", clock.pass(m), model.seconds);
                break;
        }
    }

    private void playInMain() {
        model.remember();
        int i = random.nextInt(24);
        switch (random.nextInt(5)) {
            case 0:
                int c = someTime();
                due("setTime(" + c + ")", clock.setTime(c), model.seconds);
                model.seconds = c;
                model.rest = 0;
                model.valid = true;
                break;
            case 1:
                int v = near(500);
                due("correct(" + v + ")", clock.correct(v), model.correction);
                model.correction = v;
                break;
            case 2:
                due("write(" + i % 8 + ", " + i * 11 + ")", clock.write(i % 8, i * 11), model.registers[i % 8]);
                model.registers[i % 8] = i * 11;
                break;
            case 3:
                model.guarded[i % 3] = i < 16;
                int guarded = (model.guarded[0] ? 1 : 0) + (model.guarded[1] ? 1 : 0) + (model.guarded[2] ? 1 : 0);
                due("guard(" + i % 3 + ", " + (i < 16) + ")", clock.guard(i % 3, i < 16), guarded);
                break;
            default:
                due("clearRows()", clock.clearRows(), model.rows.size());
                model.rows.clear();
                break;
        }
    }

    private void playRefused() {
        Check.Call[] calls = {() -> clock.setTime(1), () -> clock.correct(1), () -> clock.write(1, 1),
            () -> clock.guard(1, true), clock::clearRows};
        int k = random.nextInt(calls.length);
        Check.refuses(name + ": refused action " + k, IllegalStateException.class, calls[k]);
    }
}
