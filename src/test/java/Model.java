import java.util.ArrayDeque;
import java.util.ArrayList;
import java.util.Deque;
import java.util.List;

/**
 * The document's terms once more, as slowly and literally as they stand there, to compare long runs with.
 * It knows the actions and the forecasts, and nothing of the text; arguments are taken to be in their ranges.
 */
final class Model implements Cloneable {
    static final int NONE = -99999999;
    private static final Model[] SLOTS_OF_NONE = {null, null};

    long world;
    long seconds;
    long rest;
    int error = 100;
    int correction;
    boolean valid;
    int level = 9;
    int charge = 1000;
    int[] registers = new int[8];
    boolean[] guarded = new boolean[3];
    List<String> rows = new ArrayList<>();
    int tampers;
    int losses;
    Integer[] alarms = new Integer[4];
    boolean[] waits = new boolean[4];
    int[] rings = new int[4];
    long[] accounts = new long[6];
    boolean[] dueNow = new boolean[4];

    Deque<Model> remembered = new ArrayDeque<>();
    Model[] slots = SLOTS_OF_NONE.clone();

    Model copy() {
        try {
            Model other = (Model) clone();
            other.registers = registers.clone();
            other.guarded = guarded.clone();
            other.rows = new ArrayList<>(rows);
            other.alarms = alarms.clone();
            other.waits = waits.clone();
            other.rings = rings.clone();
            other.accounts = accounts.clone();
            other.dueNow = dueNow.clone();
            other.remembered = new ArrayDeque<>();
            other.slots = SLOTS_OF_NONE.clone();
            return other;
        } catch (CloneNotSupportedException e) {
            throw new IllegalStateException(e);
        }
    }

    int domain() {
        if (level >= 6) {
            return 0;
        } else if (charge == 0) {
            return 3;
        } else if (level >= 3) {
            return 1;
        }
        return 2;
    }

    private void changed(int before) {
        if (domain() == 3 && before != 3) {
            seconds = 0;
            rest = 0;
            valid = false;
            registers = new int[8];
            rows.clear();
            waits = new boolean[4];
            losses++;
        }
        if (domain() == 0 && before != 0) {
            for (int i = 0; i < 4; i++) {
                rings[i] += waits[i] ? 1 : 0;
            }
            waits = new boolean[4];
        }
    }

    void minute() {
        int before = domain();
        world++;
        accounts[before]++;
        if (before == 1 || before == 2) {
            charge--;
        }
        changed(before);
        dueNow = new boolean[4];
        if (domain() == 3) {
            return;
        }
        long u = seconds / 60;
        seconds += 60;
        rest += (error - correction) * 60;
        accounts[4] += correction * 60;
        accounts[5] += (error - correction) * 60;
        while (rest >= 1000000) {
            seconds++;
            rest -= 1000000;
        }
        while (rest <= -1000000) {
            seconds--;
            rest += 1000000;
        }
        for (int i = 0; i < 4; i++) {
            for (long number = u + 1; number <= seconds / 60; number++) {
                dueNow[i] |= alarms[i] != null && number % 1440 == alarms[i];
            }
            if (dueNow[i] && domain() == 0) {
                rings[i]++;
            } else if (dueNow[i]) {
                waits[i] = true;
            }
        }
    }

    void minutes(int m) {
        for (int k = 0; k < m; k++) {
            minute();
        }
    }

    void setLevel(int v) {
        int before = domain();
        level = v;
        changed(before);
    }

    void setCharge(int v) {
        int before = domain();
        charge = v;
        changed(before);
    }

    void tamperAt(int p) {
        if (guarded[p] && domain() != 3) {
            registers = new int[8];
            tampers++;
            if (rows.size() < 6) {
                rows.add(p + "/" + seconds + "/" + domain());
            }
        }
    }

    void remember() {
        remembered.addLast(copy());
        if (remembered.size() > 14) {
            remembered.removeFirst();
        }
    }

    /** This model's state is the other's from now on. */
    Model become(Model other) {
        Model next = other.copy();
        next.remembered = remembered;
        next.slots = slots;
        return next;
    }

    private int waiting() {
        int count = 0;
        for (boolean waiting : waits) {
            count += waiting ? 1 : 0;
        }
        return count;
    }

    private int rung() {
        return rings[0] + rings[1] + rings[2] + rings[3];
    }

    long about(int what) {
        long[] all = {world, seconds, rest, error, correction, seconds - 60 * world, valid ? 1 : 0, level, charge,
            domain(), rows.size(), tampers, rung(), waiting(), losses};
        return all[what];
    }

    long ahead(int m, int what) {
        Model later = copy();
        later.minutes(m);
        return later.about(new int[] {1, 2, 5, 8, 9, 12}[what]);
    }

    int endsAfter() {
        Model later = copy();
        for (int m = 0; m <= 10000; m++) {
            if (later.domain() == 3) {
                return m;
            }
            later.minute();
        }
        return NONE;
    }

    int dueAfter(int i) {
        Model later = copy();
        for (int m = 1; m <= 3000; m++) {
            later.minute();
            if (later.dueNow[i]) {
                return m;
            }
        }
        return NONE;
    }

    int bestCorrection(int m) {
        long best = 0;
        long nearest = Long.MAX_VALUE;
        for (int v = -500; v <= 500; v++) {
            Model later = copy();
            later.correction = v;
            long distance = Math.abs(later.ahead(m, 2));
            boolean smaller = Math.abs(v) < Math.abs(best) || Math.abs(v) == Math.abs(best) && v < best;
            if (distance < nearest || distance == nearest && smaller) {
                nearest = distance;
                best = v;
            }
        }
        return (int) best;
    }

    int simulate(long seed, int m) {
        Model later = copy();
        long x = seed;
        for (int k = 0; k < m; k++) {
            x = x * 6364136223846793005L + 1442695040888963407L;
            int r = (int) (x >>> 33);
            if (r % 8 == 0) {
                later.setLevel(r / 8 % 10);
            } else if (r % 8 == 1) {
                later.tamperAt(r / 8 % 3);
            }
            later.minutes(1 + r / 64 % 60);
        }
        return 100 * later.charge + 10 * later.domain() + later.rows.size();
    }

    int runScript(int n, long script) {
        String digits = String.format("%0" + 5 * n + "d", script);
        Model later = copy();
        for (int k = 0; k < n; k++) {
            if (!later.obeys(digits.substring(5 * k, 5 * k + 5))) {
                return k;
            }
        }
        return NONE;
    }

    private boolean obeys(String group) {
        int second = group.charAt(1) - '0';
        int last = group.charAt(4) - '0';
        int number = Integer.parseInt(group.substring(2));
        int signed = second == 1 ? -number : number;
        if (group.matches("1[0-9]{4}")) {
            int m = Integer.parseInt(group.substring(1));
            if (m < 1 || m > 1440) {
                return false;
            }
            minutes(m);
            return true;
        } else if (group.matches("2000[0-9]")) {
            setLevel(last);
            return true;
        } else if (group.matches("3[01]([0-4][0-9]{2}|500)") && domain() == 0) {
            correction = signed;
            return true;
        } else if (group.matches("4[0-7][0-9]{3}") && number <= 255 && domain() == 0) {
            registers[second] = number;
            return true;
        } else if (group.matches("5000[0-2]")) {
            tamperAt(last);
            return true;
        } else if (group.matches("6[0-3]000")) {
            alarms[second] = null;
            waits[second] = false;
            return true;
        }
        return group.matches("7000[0-9]") && domain() == last
                || group.matches("8[0-7][0-9]{3}") && registers[second] == number
                || group.matches("9[01][0-9]{3}") && seconds - 60 * world <= signed;
    }

    /** As View.of writes a clock down. */
    String view() {
        StringBuilder all = new StringBuilder("about");
        for (int what = 0; what <= 14; what++) {
            all.append(' ').append(about(what));
        }
        all.append(" account");
        for (long each : accounts) {
            all.append(' ').append(each);
        }
        all.append(" registers");
        for (int each : registers) {
            all.append(' ').append(each);
        }
        all.append(" guards");
        for (boolean each : guarded) {
            all.append(' ').append(each ? 1 : 0);
        }
        all.append(" rows");
        for (String each : rows) {
            all.append(' ').append(each);
        }
        all.append(" alarms");
        for (int i = 0; i < 4; i++) {
            all.append(' ').append(alarms[i] == null ? NONE : alarms[i]);
            all.append('/').append(waits[i] ? 1 : 0).append('/').append(rings[i]);
        }
        return all.toString();
    }
}
