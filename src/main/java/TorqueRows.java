/** Drive torque in whole steps. The numbered promises stand in ../shared/DOC.md. */
public final class TorqueRows {
    private static final int UNKNOWN = -1;
    private static final int OUTSIDE = -2;
    private static final int NOT_NOW = -3;
    private static final int NO_ROOM = -4;

    private static final int MODE_WHOLE = 0;
    private static final int MODE_HALF = 1;
    private static final int MODE_LIMP = 2;
    private static final int MODE_STANDING = 3;
    private static final int MODE_STOPPED = 4;

    private static final int FIRST_TRACK = 0;
    private static final int SECOND_TRACK = 1;
    private static final int SPEED_SENSOR = 2;
    private static final int SENSORS = 3;
    private static final int GOOD = 0;
    private static final int LOST = 1;

    private static final int MOST_TORQUE = 1000;
    private static final int MOST_TRACK = 1000;
    private static final int MOST_SPEED = 10000;
    private static final int MOST_IDLE = 3000;
    private static final int MOST_CYLINDERS = 12;

    private static final int TRACKS_APART = 50;
    private static final int DIFFERENT_STOPS = 5;
    private static final int TOO_MUCH_OVER = 30;
    private static final int TOO_MUCH_STOPS = 8;
    private static final int RAMP_UP = 40;
    private static final int RAMP_DOWN = 80;
    private static final int FUEL_CUT_SPEED = 1500;
    private static final long PERIOD_DIVIDEND = 120000000L;

    private static final int MOTOR_STEP = 50;
    private static final int MOTOR_MOST = 400;

    private final Tables tables;
    private final Wishes wishes;
    private final Idling idling;
    private final Totals totals;
    private final boolean[] lost;

    private int boundNow;
    private int cylinders;
    private boolean limpOn;
    private boolean stopped;
    private int different;
    private int tooMuch;
    private int torqueNow;
    private int torqueBefore;

    private int lastPedal;
    private int lastWanted;
    private int lastAir;
    private int lastFuel;
    private int lastMode;
    private int lastSpeed;

    public TorqueRows() {
        tables = new Tables();
        wishes = new Wishes();
        idling = new Idling();
        totals = new Totals();
        lost = new boolean[SENSORS];
        boundNow = MOST_TORQUE;
        cylinders = 4;
    }

    public int table(int kind, int x, int y, long v) {
        if (kind < 0 || kind >= Tables.KINDS) {
            return UNKNOWN;
        }
        if (!Tables.isPlace(x, y) || !isUpTo(v, Tables.MOST_VALUE)) {
            return OUTSIDE;
        }
        return tables.put(kind, x, y, (int) v);
    }

    public int step(long pedal, long other, long speed) {
        if (!isUpTo(pedal, MOST_TRACK) || !isUpTo(other, MOST_TRACK) || !isUpTo(speed, MOST_SPEED)) {
            return OUTSIDE;
        }
        torqueBefore = torqueNow;
        takeSpeed((int) speed);
        takeTracks((int) pedal, (int) other);
        lastMode = chooseMode();
        if (lastMode == MODE_STOPPED) {
            lastPedal = 0;
        }
        lastWanted = Math.min(chooseWanted(), boundNow);
        torqueNow = drives() ? ramped(torqueNow, lastWanted) : 0;
        lastAir = tables.joined(Tables.AIR, torqueNow, lastSpeed);
        lastFuel = isFuelCut() ? 0 : tables.joined(Tables.FUEL, lastAir, lastSpeed);
        totals.count(torqueNow, lastSpeed, lastFuel, lastMode == MODE_STOPPED);
        return lastMode;
    }

    public long torque() {
        return torqueNow;
    }

    public long value(int what) {
        switch (what) {
            case 0: return lastPedal;
            case 1: return lastWanted;
            case 2: return lastAir;
            case 3: return lastFuel;
            case 4: return idling.stored;
            case 5: return different;
            case 6: return lastMode;
            case 7: return lastSpeed;
            default: return OUTSIDE;
        }
    }

    public int wish(int rank, long v) {
        if (rank < 1 || rank > Wishes.RANKS) {
            return UNKNOWN;
        }
        if (!isUpTo(v, MOST_TORQUE)) {
            return OUTSIDE;
        }
        if (wishes.waiting >= Wishes.ROOM) {
            return NO_ROOM;
        }
        return wishes.add(rank, (int) v);
    }

    public int bound(long v) {
        if (!isUpTo(v, MOST_TORQUE)) {
            return OUTSIDE;
        }
        int was = boundNow;
        boundNow = (int) v;
        return was;
    }

    public int monitor(long reported) {
        if (stopped) {
            return NOT_NOW;
        }
        tooMuch = isTooMuch(reported) ? tooMuch + 1 : 0;
        if (tooMuch >= TOO_MUCH_STOPS) {
            stopped = true;
        }
        return tooMuch;
    }

    public int sensor(int which, int kind) {
        if (which < 0 || which >= SENSORS) {
            return UNKNOWN;
        }
        if (kind != GOOD && kind != LOST) {
            return OUTSIDE;
        }
        int was = lost[which] ? LOST : GOOD;
        lost[which] = kind == LOST;
        return was;
    }

    public int cylinder(int n) {
        if (n < 1 || n > MOST_CYLINDERS) {
            return 0;
        }
        cylinders = n;
        return 1;
    }

    public long period(long speed) throws ArithmeticException {
        if (!isUpTo(speed, MOST_SPEED)) {
            return OUTSIDE;
        }
        long divisor = speed * cylinders;
        if (divisor == 0) {
            throw new ArithmeticException("no period at speed 0");
        }
        return PERIOD_DIVIDEND / divisor;
    }

    public int idle(long wish) {
        if (!isUpTo(wish, MOST_IDLE)) {
            return OUTSIDE;
        }
        int was = idling.aim;
        idling.aim = (int) wish;
        return was;
    }

    public long sum(int what) {
        switch (what) {
            case 0: return totals.steps;
            case 1: return totals.work;
            case 2: return totals.fuel;
            case 3: return totals.stops;
            default: return OUTSIDE;
        }
    }

    public int split(long wish, int i) {
        if (!isUpTo(wish, MOST_TORQUE) || i < 0 || i > 2) {
            return OUTSIDE;
        }
        int whole = (int) wish;
        int motor = cheapestMotor(whole);
        if (i == 0) {
            return whole - motor;
        }
        return i == 1 ? motor : costTogether(whole, motor);
    }

    public int limp(boolean on) {
        boolean changes = limpOn != on;
        limpOn = on;
        if (!on) {
            changes = changes || stopped;
            stopped = false;
            different = 0;
            tooMuch = 0;
        }
        return changes ? 1 : 0;
    }

    private static boolean isUpTo(long v, long most) {
        return v >= 0 && v <= most;
    }

    private void takeSpeed(int speed) {
        if (!lost[SPEED_SENSOR]) {
            lastSpeed = speed;
        }
    }

    private void takeTracks(int pedal, int other) {
        int first = lost[FIRST_TRACK] ? other : pedal;
        int second = lost[SECOND_TRACK] ? pedal : other;
        boolean bothGood = !lost[FIRST_TRACK] && !lost[SECOND_TRACK];
        different = bothGood && Math.abs(first - second) > TRACKS_APART ? different + 1 : 0;
        if (different >= DIFFERENT_STOPS) {
            stopped = true;
        }
        lastPedal = Math.min(first, second);
    }

    private int chooseMode() {
        if (stopped || (lost[FIRST_TRACK] && lost[SECOND_TRACK])) {
            return MODE_STOPPED;
        }
        if (lastSpeed == 0) {
            return MODE_STANDING;
        }
        if (limpOn || lost[FIRST_TRACK] || lost[SECOND_TRACK] || lost[SPEED_SENSOR]) {
            return MODE_LIMP;
        }
        return different > 0 ? MODE_HALF : MODE_WHOLE;
    }

    private boolean drives() {
        return lastMode != MODE_STANDING && lastMode != MODE_STOPPED;
    }

    private int chooseWanted() {
        int wanted = drives() ? wishes.appliedTo(pedalWanted()) : 0;
        wishes.clear();
        if (!drives() || lastPedal > 0) {
            idling.forget();
            return wanted;
        }
        return Math.max(wanted, idling.torqueAt(lastSpeed));
    }

    private int pedalWanted() {
        if (lastMode == MODE_LIMP) {
            return tables.joined(Tables.LIMP, lastPedal, lastSpeed);
        }
        int whole = tables.joined(Tables.PEDAL, lastPedal, lastSpeed);
        return lastMode == MODE_HALF ? whole / 2 : whole;
    }

    private static int ramped(int from, int to) {
        return Math.max(from - RAMP_DOWN, Math.min(from + RAMP_UP, to));
    }

    private boolean isFuelCut() {
        boolean coasts = lastPedal == 0 && torqueNow == 0 && lastSpeed > FUEL_CUT_SPEED;
        return coasts || !drives();
    }

    private boolean isTooMuch(long reported) {
        return reported > lastWanted + TOO_MUCH_OVER && reported > torqueBefore;
    }

    private int cheapestMotor(int whole) {
        int best = 0;
        int bestCost = costTogether(whole, 0);
        for (int motor = MOTOR_STEP; motor <= MOTOR_MOST && motor <= whole; motor += MOTOR_STEP) {
            int cost = costTogether(whole, motor);
            // Only a truly lesser cost wins: of equal ones the document wants the least motor.
            if (cost < bestCost) {
                best = motor;
                bestCost = cost;
            }
        }
        return best;
    }

    private int costTogether(int whole, int motor) {
        return motor + motor * motor / 200 + tables.joined(Tables.COST, whole - motor, lastSpeed);
    }

    /** The five tables, in one row so that an object needs a single array for all of them. */
    private static final class Tables {
        private static final int PEDAL = 0;
        private static final int LIMP = 1;
        private static final int AIR = 2;
        private static final int FUEL = 3;
        private static final int COST = 4;
        private static final int KINDS = 5;
        private static final int SIDE = 8;
        private static final int MOST_VALUE = 1000;
        private static final int X_WIDTH = 128;
        private static final int Y_WIDTH = 1000;

        private final int[] values;

        private Tables() {
            values = new int[KINDS * SIDE * SIDE];
        }

        private static boolean isPlace(int x, int y) {
            return x >= 0 && x < SIDE && y >= 0 && y < SIDE;
        }

        private int put(int kind, int x, int y, int v) {
            int index = indexOf(kind, x, y);
            int was = values[index];
            values[index] = v;
            return was;
        }

        private int joined(int kind, int a, int s) {
            int nearA = between(a, (SIDE - 1) * X_WIDTH);
            int nearS = between(s, (SIDE - 1) * Y_WIDTH);
            // The last place has no neighbour above it, so the cell below serves it.
            int i = Math.min(nearA / X_WIDTH, SIDE - 2);
            int j = Math.min(nearS / Y_WIDTH, SIDE - 2);
            int p = nearA - X_WIDTH * i;
            int q = nearS - Y_WIDTH * j;
            int low = values[indexOf(kind, i, j)] * (X_WIDTH - p) + values[indexOf(kind, i + 1, j)] * p;
            int high = values[indexOf(kind, i, j + 1)] * (X_WIDTH - p) + values[indexOf(kind, i + 1, j + 1)] * p;
            return (low * (Y_WIDTH - q) + high * q) / (X_WIDTH * Y_WIDTH);
        }

        private static int between(int v, int most) {
            return Math.max(0, Math.min(v, most));
        }

        private static int indexOf(int kind, int x, int y) {
            return (kind * SIDE + x) * SIDE + y;
        }
    }

    /** The wishes that wait. Only the least of a rank ever counts, so only that one is kept. */
    private static final class Wishes {
        private static final int RANKS = 5;
        private static final int ROOM = 16;
        private static final int NONE = -1;

        private final int[] least;
        private int waiting;

        private Wishes() {
            least = new int[RANKS + 1];
            clear();
        }

        private int add(int rank, int v) {
            if (least[rank] == NONE || v < least[rank]) {
                least[rank] = v;
            }
            waiting++;
            return waiting;
        }

        private int appliedTo(int torque) {
            int wanted = torque;
            for (int rank = 1; rank <= RANKS; rank++) {
                if (least[rank] != NONE) {
                    wanted = rank % 2 == 1 ? Math.max(wanted, least[rank]) : Math.min(wanted, least[rank]);
                }
            }
            return wanted;
        }

        private void clear() {
            for (int rank = 0; rank <= RANKS; rank++) {
                least[rank] = NONE;
            }
            waiting = 0;
        }
    }

    /** The idle's regulator, whose store stands still at the ends so that it does not wind up. */
    private static final class Idling {
        private static final int MOST = 200;

        private int aim;
        private int stored;

        private Idling() {
            aim = 800;
        }

        private int torqueAt(int speed) {
            int e = aim - speed;
            // Towards smaller ones, also below 0, where Java's own division goes towards 0.
            int o = Math.floorDiv(4 * e + stored, 16);
            boolean windsUp = (o > MOST && e > 0) || (o < 0 && e < 0);
            if (!windsUp) {
                stored += e;
            }
            return Math.max(0, Math.min(o, MOST));
        }

        private void forget() {
            stored = 0;
        }
    }

    /** What is summed over all steps. */
    private static final class Totals {
        private long steps;
        private long work;
        private long fuel;
        private long stops;

        private void count(int torque, int speed, int fuelNow, boolean isStop) {
            steps++;
            work += (long) torque * speed;
            fuel += fuelNow;
            if (isStop) {
                stops++;
            }
        }
    }
}
