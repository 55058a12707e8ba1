/** A clock that goes on by a battery while its supply is away. ../shared/DOC.md says what each call promises. */
public final class BrownClock {
    /** There is no such result. */
    public static final int NONE = -99999999;

    private static final int MAIN = 0;
    private static final int BROWN = 1;
    private static final int BATTERY = 2;
    private static final int DEAD = 3;
    private static final int DOMAINS = 4;

    private static final int REGISTERS = 8;
    private static final int LARGEST_NUMBER = 255;
    private static final int PINS = 3;
    private static final int ROWS = 6;
    private static final int ALARMS = 4;
    private static final int SLOTS = 2;
    private static final int REMEMBERED = 14;
    private static final int TEXT_LENGTH = 60;

    private static final int DAY = 1440;
    private static final int MILLION = 1000000;
    private static final int LARGEST_MILLIONTHS = 500;
    private static final int LARGEST_SECONDS = 99999999;
    private static final int LARGEST_LEVEL = 9;
    private static final int LARGEST_CHARGE = 9999;

    private static final int LONGEST_PASS = 1440;
    private static final int LONGEST_DUE = 3000;
    private static final int LONGEST_BEST = 600;
    private static final int MOST_COMMANDS = 3;
    private static final int GROUP = 100000;
    private static final int MOST_ROUNDS = 60;

    /** Under which number State.tell has what each number of the forecast asks for. */
    private static final int[] AHEAD = {1, 2, 5, 8, 9, 12};

    private final Text text;
    private final State state;
    /** Forecasts, scripts and the reading of the text spoil this one, so that none of them makes a new state. */
    private final State draft;
    private final History history;
    private final Slots slots;

    public BrownClock() {
        text = new Text();
        state = new State();
        draft = new State();
        history = new History();
        slots = new Slots();
    }

    // ---- text

    public int append(int c) throws IllegalArgumentException, IllegalStateException {
        needRange(c, 0, 255);
        if (text.length >= TEXT_LENGTH) {
            throw new IllegalStateException("the text is full");
        }
        text.add(c);
        return text.length;
    }

    public int clearText() {
        int length = text.length;
        text.length = 0;
        return length;
    }

    public int errorPosition() {
        return text.readInto(draft);
    }

    public int load() throws IllegalStateException {
        if (text.readInto(draft) != NONE) {
            throw new IllegalStateException("the text is not one to load");
        }
        state.copyFrom(draft);
        history.forget();
        slots.empty();
        return state.alarmsSet();
    }

    // ---- what there is

    public int about(int what) throws IllegalArgumentException {
        needRange(what, 0, 14);
        return state.tell(what);
    }

    public long account(int what) throws IllegalArgumentException {
        needRange(what, 0, DOMAINS + 1);
        if (what < DOMAINS) {
            return state.supply.minutesIn[what];
        }
        return what == DOMAINS ? state.crystal.correctionSum : state.crystal.driftSum;
    }

    public int register(int r) throws IndexOutOfBoundsException {
        needIndex(r, REGISTERS);
        return state.registers[r];
    }

    public boolean isGuarded(int p) throws IndexOutOfBoundsException {
        needIndex(p, PINS);
        return state.tampers.guarded[p];
    }

    public int row(int j, int what) throws IndexOutOfBoundsException, IllegalArgumentException {
        needIndex(j, state.tampers.rows);
        needRange(what, 0, 2);
        return state.tampers.tellRow(j, what);
    }

    public int alarm(int i, int what) throws IndexOutOfBoundsException, IllegalArgumentException {
        needIndex(i, ALARMS);
        needRange(what, 0, 2);
        return state.alarms[i].tell(what);
    }

    // ---- actions

    public int pass(int m) throws IllegalArgumentException {
        needRange(m, 1, LONGEST_PASS);
        history.remember(state);
        state.passMinutes(m);
        return state.crystal.seconds;
    }

    public int level(int v) throws IllegalArgumentException {
        needRange(v, 0, LARGEST_LEVEL);
        history.remember(state);
        state.changeLevel(v);
        return state.supply.domain();
    }

    public int setTime(int c) throws IllegalArgumentException, IllegalStateException {
        needRange(c, 0, LARGEST_SECONDS);
        needMain();
        history.remember(state);
        int previous = state.crystal.seconds;
        state.crystal.setTo(c);
        return previous;
    }

    public int correct(int v) throws IllegalArgumentException, IllegalStateException {
        needRange(v, -LARGEST_MILLIONTHS, LARGEST_MILLIONTHS);
        needMain();
        history.remember(state);
        int previous = state.crystal.correction;
        state.crystal.correction = v;
        return previous;
    }

    public int age(int v) throws IllegalArgumentException {
        needRange(v, -LARGEST_MILLIONTHS, LARGEST_MILLIONTHS);
        history.remember(state);
        int previous = state.crystal.error;
        state.crystal.error = v;
        return previous;
    }

    public int write(int r, int v)
            throws IndexOutOfBoundsException, IllegalArgumentException, IllegalStateException {
        needIndex(r, REGISTERS);
        needRange(v, 0, LARGEST_NUMBER);
        needMain();
        history.remember(state);
        int previous = state.registers[r];
        state.registers[r] = v;
        return previous;
    }

    public int guard(int p, boolean guarded) throws IndexOutOfBoundsException, IllegalStateException {
        needIndex(p, PINS);
        needMain();
        history.remember(state);
        state.tampers.guarded[p] = guarded;
        return state.tampers.guardedPins();
    }

    public int tamper(int p) throws IndexOutOfBoundsException {
        needIndex(p, PINS);
        history.remember(state);
        state.tamperAt(p);
        return state.tampers.rows;
    }

    public int clearRows() throws IllegalStateException {
        needMain();
        history.remember(state);
        int previous = state.tampers.rows;
        state.tampers.rows = 0;
        return previous;
    }

    public int setAlarm(int i, int minute) throws IndexOutOfBoundsException, IllegalArgumentException {
        needIndex(i, ALARMS);
        needRange(minute, 0, DAY);
        history.remember(state);
        int previous = state.alarms[i].minute;
        state.alarms[i].setTo(minute == DAY ? NONE : minute);
        return previous;
    }

    public int battery(int charge) throws IllegalArgumentException {
        needRange(charge, 0, LARGEST_CHARGE);
        history.remember(state);
        state.changeBattery(charge);
        return state.supply.domain();
    }

    public int undo() throws IllegalStateException {
        if (history.count <= 0) {
            throw new IllegalStateException("no state is remembered");
        }
        history.takeBackInto(state);
        return history.count;
    }

    // ---- forecasts

    public int whyNot() {
        return state.supply.domain();
    }

    public int ahead(int m, int what) throws IllegalArgumentException {
        needRange(m, 0, LONGEST_PASS);
        needRange(what, 0, AHEAD.length - 1);
        draft.copyFrom(state);
        draft.passMinutes(m);
        return draft.tell(AHEAD[what]);
    }

    public int endsAfter() {
        return state.supply.minutesLeft();
    }

    public int dueAfter(int i) throws IndexOutOfBoundsException {
        needIndex(i, ALARMS);
        draft.copyFrom(state);
        for (int m = 1; m <= LONGEST_DUE; m++) {
            int before = draft.crystal.minute();
            draft.passMinute();
            // A minute that empties the battery sets C back to 0, so no number lies between and nothing is due.
            if (draft.alarms[i].isDue(before, draft.crystal.minute())) {
                return m;
            }
        }
        return NONE;
    }

    public int bestCorrection(int m) throws IllegalArgumentException {
        needRange(m, 1, LONGEST_BEST);
        if (state.isDeadWithin(m)) {
            return 0; // The time is lost by then whatever the correction, so all are equally near.
        }
        int best = 0;
        // Outwards from 0 and the smaller sign first: among equals the one that is found first is due.
        for (int size = 1; size <= LARGEST_MILLIONTHS; size++) {
            best = state.nearer(m, best, -size);
            best = state.nearer(m, best, size);
        }
        return best;
    }

    // ---- scripts, simulations

    public int runScript(int n, long script) throws IllegalArgumentException {
        needRange(n, 1, MOST_COMMANDS);
        if (script < 0 || !Script.fits(n, script)) {
            throw new IllegalArgumentException("the script has too many digits, or is negative");
        }
        draft.copyFrom(state);
        for (int k = 0; k < n; k++) {
            if (!Script.runs(draft, Script.command(n, script, k))) {
                return k;
            }
        }
        return NONE;
    }

    public int simulate(long seed, int m) throws IllegalArgumentException {
        needRange(m, 1, MOST_ROUNDS);
        draft.copyFrom(state);
        long x = seed;
        for (int round = 0; round < m; round++) {
            x = x * 6364136223846793005L + 1442695040888963407L;
            int r = (int) (x >>> 33);
            if (r % 8 == 0) {
                draft.changeLevel(r / 8 % 10);
            } else if (r % 8 == 1) {
                draft.tamperAt(r / 8 % 3);
            }
            draft.passMinutes(1 + r / 64 % 60);
        }
        return 100 * draft.supply.charge + 10 * draft.supply.domain() + draft.tampers.rows;
    }

    // ---- save slots

    public int save(int slot) throws IndexOutOfBoundsException {
        needIndex(slot, SLOTS);
        slots.states[slot].copyFrom(state);
        slots.full[slot] = true;
        return state.minutes;
    }

    public int restore(int slot) throws IndexOutOfBoundsException, IllegalStateException {
        needIndex(slot, SLOTS);
        if (!slots.full[slot]) {
            throw new IllegalStateException("nothing has been saved in this slot");
        }
        state.copyFrom(slots.states[slot]);
        history.forget();
        return state.minutes;
    }

    // ---- what the calls above refuse

    private static void needRange(int v, int smallest, int largest) {
        if (v < smallest || v > largest) {
            throw new IllegalArgumentException("an argument is out of its range");
        }
    }

    private static void needIndex(int i, int count) {
        if (i < 0 || i >= count) {
            throw new IndexOutOfBoundsException("there is no such thing");
        }
    }

    private void needMain() {
        if (!state.isWritable()) {
            throw new IllegalStateException("the supply is not main");
        }
    }

    /** What the clock tells, and the crystal that drives it. */
    private static final class Crystal {
        int seconds;
        int rest;
        boolean valid;
        int error;
        int correction;
        long correctionSum;
        long driftSum;

        void reset() {
            lose();
            error = 100;
            correction = 0;
            correctionSum = 0;
            driftSum = 0;
        }

        void copyFrom(Crystal other) {
            seconds = other.seconds;
            rest = other.rest;
            valid = other.valid;
            error = other.error;
            correction = other.correction;
            correctionSum = other.correctionSum;
            driftSum = other.driftSum;
        }

        void lose() {
            seconds = 0;
            rest = 0;
            valid = false;
        }

        void setTo(int c) {
            seconds = c;
            rest = 0;
            valid = true;
        }

        int minute() {
            return seconds / 60;
        }

        void goOn() {
            int drift = (error - correction) * 60;
            seconds += 60;
            rest += drift;
            correctionSum += correction * 60;
            driftSum += drift;
            // Division rounds towards 0, which is just what carrying single seconds in either direction does.
            int whole = rest / MILLION;
            seconds += whole;
            rest -= whole * MILLION;
        }

        /**
         * How many seconds the clock wins on the world in m minutes with this correction. The drift has one sign
         * all the while, so carrying once at the end gives the same as carrying minute by minute.
         */
        int winsWith(int m, int otherCorrection) {
            return (rest + m * (error - otherCorrection) * 60) / MILLION;
        }
    }

    /** The supply and the battery behind it. */
    private static final class Supply {
        final int[] minutesIn = new int[DOMAINS];
        int level;
        int charge;
        int losses;

        void reset() {
            for (int d = 0; d < minutesIn.length; d++) {
                minutesIn[d] = 0;
            }
            level = LARGEST_LEVEL;
            charge = 1000;
            losses = 0;
        }

        void copyFrom(Supply other) {
            System.arraycopy(other.minutesIn, 0, minutesIn, 0, DOMAINS);
            level = other.level;
            charge = other.charge;
            losses = other.losses;
        }

        int domain() {
            if (level >= 6) {
                return MAIN;
            }
            if (charge == 0) {
                return DEAD;
            }
            return level >= 3 ? BROWN : BATTERY;
        }

        void spendMinute() {
            int domain = domain();
            minutesIn[domain]++;
            if (domain == BROWN || domain == BATTERY) {
                charge--;
            }
        }

        int minutesLeft() {
            return domain() == MAIN ? NONE : charge;
        }
    }

    /** The guards of the pins and the rows that tell of tampers. */
    private static final class Tampers {
        final boolean[] guarded = new boolean[PINS];
        final int[] rowPin = new int[ROWS];
        final int[] rowSeconds = new int[ROWS];
        final int[] rowDomain = new int[ROWS];
        int rows;
        int counted;

        void reset() {
            for (int p = 0; p < guarded.length; p++) {
                guarded[p] = false;
            }
            rows = 0;
            counted = 0;
        }

        void copyFrom(Tampers other) {
            System.arraycopy(other.guarded, 0, guarded, 0, PINS);
            System.arraycopy(other.rowPin, 0, rowPin, 0, ROWS);
            System.arraycopy(other.rowSeconds, 0, rowSeconds, 0, ROWS);
            System.arraycopy(other.rowDomain, 0, rowDomain, 0, ROWS);
            rows = other.rows;
            counted = other.counted;
        }

        int guardedPins() {
            int pins = 0;
            for (int p = 0; p < guarded.length; p++) {
                if (guarded[p]) {
                    pins++;
                }
            }
            return pins;
        }

        void add(int p, int seconds, int domain) {
            counted++;
            if (rows >= ROWS) {
                return;
            }
            rowPin[rows] = p;
            rowSeconds[rows] = seconds;
            rowDomain[rows] = domain;
            rows++;
        }

        int tellRow(int j, int what) {
            switch (what) {
                case 0:
                    return rowPin[j];
                case 1:
                    return rowSeconds[j];
                default:
                    return rowDomain[j];
            }
        }
    }

    /** One alarm. */
    private static final class Alarm {
        int minute;
        boolean waits;
        int rings;

        void reset() {
            setTo(NONE);
            rings = 0;
        }

        void copyFrom(Alarm other) {
            minute = other.minute;
            waits = other.waits;
            rings = other.rings;
        }

        void setTo(int newMinute) {
            minute = newMinute;
            waits = false;
        }

        /** Whether a clock that goes from one whole minute to another comes to this alarm's. */
        boolean isDue(int before, int after) {
            for (int k = before + 1; k <= after; k++) {
                if (k % DAY == minute) {
                    return true;
                }
            }
            return false;
        }

        void come(int domain) {
            if (domain == MAIN) {
                rings++;
            } else {
                waits = true;
            }
        }

        void ringIfWaiting() {
            if (waits) {
                rings++;
                waits = false;
            }
        }

        int tell(int what) {
            switch (what) {
                case 0:
                    return minute;
                case 1:
                    return waits ? 1 : 0;
                default:
                    return rings;
            }
        }
    }

    /** All that actions change, undo takes back and slots keep. */
    private static final class State {
        final Crystal crystal = new Crystal();
        final Supply supply = new Supply();
        final Tampers tampers = new Tampers();
        final int[] registers = new int[REGISTERS];
        final Alarm[] alarms = new Alarm[ALARMS];
        int minutes;

        State() {
            for (int i = 0; i < alarms.length; i++) {
                alarms[i] = new Alarm();
            }
            reset();
        }

        void reset() {
            minutes = 0;
            crystal.reset();
            supply.reset();
            tampers.reset();
            eraseRegisters();
            for (int i = 0; i < alarms.length; i++) {
                alarms[i].reset();
            }
        }

        void copyFrom(State other) {
            minutes = other.minutes;
            crystal.copyFrom(other.crystal);
            supply.copyFrom(other.supply);
            tampers.copyFrom(other.tampers);
            System.arraycopy(other.registers, 0, registers, 0, REGISTERS);
            for (int i = 0; i < alarms.length; i++) {
                alarms[i].copyFrom(other.alarms[i]);
            }
        }

        boolean isWritable() {
            return supply.domain() == MAIN;
        }

        int offset() {
            return crystal.seconds - 60 * minutes;
        }

        void passMinutes(int m) {
            for (int k = 0; k < m; k++) {
                passMinute();
            }
        }

        void passMinute() {
            int domain = supply.domain();
            minutes++;
            supply.spendMinute();
            settle(domain);
            if (supply.domain() != DEAD) {
                goOn();
            }
        }

        private void goOn() {
            int before = crystal.minute();
            crystal.goOn();
            for (int i = 0; i < alarms.length; i++) {
                if (alarms[i].isDue(before, crystal.minute())) {
                    alarms[i].come(supply.domain());
                }
            }
        }

        void changeLevel(int v) {
            int domain = supply.domain();
            supply.level = v;
            settle(domain);
        }

        void changeBattery(int charge) {
            int domain = supply.domain();
            supply.charge = charge;
            settle(domain);
        }

        /** Does what comes with a domain that is another one than before. */
        private void settle(int before) {
            int domain = supply.domain();
            if (domain == before) {
                return;
            }
            if (domain == DEAD) {
                lose();
            } else if (domain == MAIN) {
                ringWaiting();
            }
        }

        private void lose() {
            supply.losses++;
            crystal.lose();
            eraseRegisters();
            tampers.rows = 0;
            for (int i = 0; i < alarms.length; i++) {
                alarms[i].waits = false;
            }
        }

        private void ringWaiting() {
            for (int i = 0; i < alarms.length; i++) {
                alarms[i].ringIfWaiting();
            }
        }

        private void eraseRegisters() {
            for (int r = 0; r < registers.length; r++) {
                registers[r] = 0;
            }
        }

        void tamperAt(int p) {
            if (!tampers.guarded[p] || supply.domain() == DEAD) {
                return;
            }
            eraseRegisters();
            tampers.add(p, crystal.seconds, supply.domain());
        }

        int alarmsSet() {
            int set = 0;
            for (int i = 0; i < alarms.length; i++) {
                if (alarms[i].minute != NONE) {
                    set++;
                }
            }
            return set;
        }

        private int alarmsWaiting() {
            int waiting = 0;
            for (int i = 0; i < alarms.length; i++) {
                waiting += alarms[i].tell(1);
            }
            return waiting;
        }

        private int rings() {
            int rings = 0;
            for (int i = 0; i < alarms.length; i++) {
                rings += alarms[i].rings;
            }
            return rings;
        }

        boolean isDeadWithin(int m) {
            return supply.domain() != MAIN && supply.minutesLeft() <= m;
        }

        /** The correction that leaves the offset nearer to 0 after m minutes through which the battery lasts. */
        int nearer(int m, int best, int other) {
            return distanceAfter(m, other) < distanceAfter(m, best) ? other : best;
        }

        private int distanceAfter(int m, int correction) {
            return Math.abs(offset() + crystal.winsWith(m, correction));
        }

        int tell(int what) {
            switch (what) {
                case 0:
                    return minutes;
                case 1:
                    return crystal.seconds;
                case 2:
                    return crystal.rest;
                case 3:
                    return crystal.error;
                case 4:
                    return crystal.correction;
                case 5:
                    return offset();
                case 6:
                    return crystal.valid ? 1 : 0;
                case 7:
                    return supply.level;
                case 8:
                    return supply.charge;
                case 9:
                    return supply.domain();
                case 10:
                    return tampers.rows;
                case 11:
                    return tampers.counted;
                case 12:
                    return rings();
                case 13:
                    return alarmsWaiting();
                default:
                    return supply.losses;
            }
        }
    }

    /** The states that undo goes back to, the oldest one first. */
    private static final class History {
        final State[] states = new State[REMEMBERED];
        int count;

        History() {
            for (int k = 0; k < states.length; k++) {
                states[k] = new State();
            }
        }

        void forget() {
            count = 0;
        }

        void remember(State state) {
            if (count >= REMEMBERED) {
                forgetOldest();
            }
            states[count].copyFrom(state);
            count++;
        }

        /** The object of the oldest state goes to the end, to be used again. */
        private void forgetOldest() {
            State oldest = states[0];
            for (int k = 1; k < states.length; k++) {
                states[k - 1] = states[k];
            }
            states[REMEMBERED - 1] = oldest;
            count = REMEMBERED - 1;
        }

        void takeBackInto(State state) {
            count--;
            state.copyFrom(states[count]);
        }
    }

    /** The save slots. */
    private static final class Slots {
        final State[] states = new State[SLOTS];
        final boolean[] full = new boolean[SLOTS];

        Slots() {
            for (int slot = 0; slot < states.length; slot++) {
                states[slot] = new State();
            }
        }

        void empty() {
            for (int slot = 0; slot < full.length; slot++) {
                full[slot] = false;
            }
        }
    }

    /** The commands of scripts, groups of five decimal digits. */
    private static final class Script {
        /** Whether a script that is not negative has at most five digits for each command. */
        static boolean fits(int n, long script) {
            long left = script;
            for (int k = 0; k < n; k++) {
                left /= GROUP;
            }
            return left == 0;
        }

        static int command(int n, long script, int k) {
            long left = script;
            for (int later = k + 1; later < n; later++) {
                left /= GROUP;
            }
            return (int) (left % GROUP);
        }

        /** Does what a command says, and tells whether it succeeded. */
        static boolean runs(State state, int group) {
            int second = group / 1000 % 10;
            int number = group % 1000;
            boolean plain = group / 10 % 1000 == 0;
            switch (group / 10000) {
                case 1:
                    return passes(state, group % 10000);
                case 2:
                    return plain && setsLevel(state, group % 10);
                case 3:
                    return second <= 1 && corrects(state, signed(second, number));
                case 4:
                    return writes(state, second, number);
                case 5:
                    return plain && tampersAt(state, group % 10);
                case 6:
                    return number == 0 && unsetsAlarm(state, second);
                case 7:
                    return plain && state.supply.domain() == group % 10;
                case 8:
                    return second < REGISTERS && state.registers[second] == number;
                case 9:
                    return second <= 1 && state.offset() <= signed(second, number);
                default:
                    return false;
            }
        }

        private static int signed(int sign, int number) {
            return sign == 0 ? number : -number;
        }

        private static boolean passes(State state, int m) {
            if (m < 1 || m > LONGEST_PASS) {
                return false;
            }
            state.passMinutes(m);
            return true;
        }

        private static boolean setsLevel(State state, int v) {
            state.changeLevel(v);
            return true;
        }

        private static boolean corrects(State state, int v) {
            if (v < -LARGEST_MILLIONTHS || v > LARGEST_MILLIONTHS || !state.isWritable()) {
                return false;
            }
            state.crystal.correction = v;
            return true;
        }

        private static boolean writes(State state, int r, int v) {
            if (r >= REGISTERS || v > LARGEST_NUMBER || !state.isWritable()) {
                return false;
            }
            state.registers[r] = v;
            return true;
        }

        private static boolean tampersAt(State state, int p) {
            if (p >= PINS) {
                return false;
            }
            state.tamperAt(p);
            return true;
        }

        private static boolean unsetsAlarm(State state, int i) {
            if (i >= ALARMS) {
                return false;
            }
            state.alarms[i].setTo(NONE);
            return true;
        }
    }

    /** The text buffer and how it is read. */
    private static final class Text {
        final int[] codes = new int[TEXT_LENGTH];
        int length;
        private int position;
        private int alarmsTold;
        private int pinsTold;
        private int registersTold;
        private final boolean[] isRegisterTold = new boolean[REGISTERS];

        void add(int c) {
            if (length < TEXT_LENGTH) {
                codes[length] = c;
                length++;
            }
        }

        /** Makes a state what the text tells; returns the error position, NONE if there is none. */
        int readInto(State plan) {
            plan.reset();
            start();
            if (!readHead(plan)) {
                return position;
            }
            for (int parts = 0; parts < TEXT_LENGTH && position < length; parts++) {
                if (!readPart(plan)) {
                    return position;
                }
            }
            return NONE;
        }

        private void start() {
            position = 0;
            alarmsTold = 0;
            pinsTold = 0;
            registersTold = 0;
            for (int r = 0; r < isRegisterTold.length; r++) {
                isRegisterTold[r] = false;
            }
        }

        private boolean readHead(State plan) {
            if (here() != 'K') {
                return false;
            }
            position++;
            int sign = here();
            if (sign != '+' && sign != '-') {
                return false;
            }
            position++;
            int error = readNumber(100, LARGEST_MILLIONTHS);
            if (error == NONE) {
                return false;
            }
            int charge = readNumber(1000, LARGEST_CHARGE);
            if (charge == NONE) {
                return false;
            }
            plan.crystal.error = sign == '-' ? -error : error;
            plan.supply.charge = charge;
            return true;
        }

        private boolean readPart(State plan) {
            switch (here()) {
                case 'a':
                    return readAlarm(plan);
                case 'p':
                    return readPin(plan);
                case 'r':
                    return readRegister(plan);
                default:
                    return false;
            }
        }

        private boolean readAlarm(State plan) {
            if (alarmsTold >= ALARMS) {
                return false;
            }
            position++;
            int hour = readNumber(10, 23);
            if (hour == NONE) {
                return false;
            }
            int minute = readNumber(10, 59);
            if (minute == NONE) {
                return false;
            }
            plan.alarms[alarmsTold].setTo(hour * 60 + minute);
            alarmsTold++;
            return true;
        }

        private boolean readPin(State plan) {
            if (pinsTold >= PINS) {
                return false;
            }
            position++;
            int p = digitHere();
            if (p < 0 || p >= PINS || plan.tampers.guarded[p]) {
                return false;
            }
            position++;
            plan.tampers.guarded[p] = true;
            pinsTold++;
            return true;
        }

        private boolean readRegister(State plan) {
            if (registersTold >= REGISTERS) {
                return false;
            }
            position++;
            int r = digitHere();
            if (r < 0 || r >= REGISTERS || isRegisterTold[r]) {
                return false;
            }
            position++;
            int number = readNumber(100, LARGEST_NUMBER);
            if (number == NONE) {
                return false;
            }
            plan.registers[r] = number;
            isRegisterTold[r] = true;
            registersTold++;
            return true;
        }

        /** Reads a number whose first digit counts firstUnit; stops at a digit with which it would be too large. */
        private int readNumber(int firstUnit, int largest) {
            int number = 0;
            for (int unit = firstUnit; unit > 0; unit /= 10) {
                int digit = digitHere();
                if (digit == NONE || number + digit * unit > largest) {
                    return NONE;
                }
                number += digit * unit;
                position++;
            }
            return number;
        }

        private int here() {
            return position < length ? codes[position] : NONE;
        }

        private int digitHere() {
            int c = here();
            return c >= '0' && c <= '9' ? c - '0' : NONE;
        }
    }
}
