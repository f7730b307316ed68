import java.util.Random;

/**
 * Runs of 512 calls, the same in every test, on the program and on the model: all answers must be alike. A run
 * ends with its 512th call, since the document leaves free what later ones answer.
 */
public final class ModelTest {
    private static final int RUNS = 6000;
    private static final int CALLS = 512;
    private static final long[] ODD = {
        Long.MIN_VALUE, Integer.MIN_VALUE, -1, 1001, 10001, 3001, 1L << 32, (1L << 32) + 1, Integer.MAX_VALUE, Long.MAX_VALUE
    };

    private final TorqueRows rows = new TorqueRows();
    private final Model model = new Model();
    private final Random random;
    /** How seldom things go wrong in this run: with much trouble no torque ever grows, so runs differ. */
    private final int calm;
    private String call = "";
    private int calls;

    private ModelTest(long seed) {
        random = new Random(seed);
        calm = new int[] {3, 20, 200}[(int) (seed % 3)];
    }

    public static void main(String[] args) {
        for (int run = 0; run < RUNS; run++) {
            new ModelTest(run).go(run);
        }
        Due.end();
    }

    private void go(int run) {
        // All rows of the tables take most of a run's calls, so half of the runs have a few rows alone.
        fillTables(run % 2 == 0 ? 8 : 2);
        while (calls < CALLS) {
            calls++;
            int which = random.nextInt(16);
            long[] both = which < 8 ? mostCalled(which) : seldomCalled(which);
            Due.is("run " + run + ": " + call, both[0], both[1]);
            if (both[0] != both[1]) {
                return;
            }
        }
    }

    private void fillTables(int speeds) {
        for (int kind = 0; kind < 5; kind++) {
            int slope = random.nextInt(3) * 70;
            for (int place = 0; place < 8 * speeds; place++) {
                int x = place / speeds;
                int v = random.nextInt(4) == 0 ? random.nextInt(1001) : slope * x + random.nextInt(100);
                calls++;
                rows.table(kind, x, place % speeds, v);
                model.table(kind, x, place % speeds, v);
            }
        }
    }

    private long number(int low, int high) {
        int luck = random.nextInt(40);
        if (luck == 0) return ODD[random.nextInt(ODD.length)];
        if (luck == 1) return low;
        if (luck == 2) return high;
        if (luck == 3) return high + 1;
        if (luck == 4) return low - 1;
        return low + random.nextInt(high - low + 1);
    }

    private boolean seldom() {
        return random.nextInt(calm) == 0;
    }

    private long[] mostCalled(int which) {
        if (which < 4) return step();
        if (which == 4) return wish();
        if (which == 5) {
            int what = (int) number(0, 7);
            call = "value(" + what + ")";
            return new long[] {rows.value(what), model.value(what)};
        }
        if (which == 6) {
            long v = model.value(1) + random.nextInt(4) + 29;
            long reported = seldom() ? number(0, 1000) : random.nextBoolean() ? v : model.torque() + random.nextInt(90);
            call = "monitor(" + reported + ")";
            return new long[] {rows.monitor(reported), model.monitor(reported)};
        }
        call = "torque()";
        return new long[] {rows.torque(), model.torque()};
    }

    private long[] step() {
        long pedal = random.nextInt(3) == 0 ? 0 : number(0, 1000);
        long other = seldom() ? number(0, 1000) : Math.max(0, pedal + random.nextInt(105) - 52);
        if (random.nextInt(3) == 0) other = pedal;
        long speed = random.nextBoolean() ? number(0, 10000) : number(600, 1600);
        call = "step(" + pedal + ", " + other + ", " + speed + ")";
        return new long[] {rows.step(pedal, other, speed), model.step(pedal, other, speed)};
    }

    private long[] wish() {
        long[] all = {0, 0};
        int times = Math.min(random.nextInt(50) == 0 ? 18 : 1 + random.nextInt(3), CALLS - calls + 1);
        calls += times - 1;
        for (int n = 0; n < times; n++) {
            int rank = (int) number(1, 5);
            long v = number(0, 1000);
            call = "wish(" + rank + ", " + v + ")";
            all[0] = all[0] * 31 + rows.wish(rank, v);
            all[1] = all[1] * 31 + model.wish(rank, v);
        }
        return all;
    }

    private long[] seldomCalled(int which) {
        switch (which) {
            case 8: {
                long v = seldom() ? number(0, 1000) : 1000;
                call = "bound(" + v + ")";
                return new long[] {rows.bound(v), model.bound(v)};
            }
            case 9: {
                int sensor = (int) number(0, 2);
                int kind = seldom() ? (int) number(0, 1) : 0;
                call = "sensor(" + sensor + ", " + kind + ")";
                return new long[] {rows.sensor(sensor, kind), model.sensor(sensor, kind)};
            }
            case 10: {
                int n = (int) number(1, 12);
                call = "cylinder(" + n + ")";
                return new long[] {rows.cylinder(n), model.cylinder(n)};
            }
            case 11: {
                long speed = number(0, 10000);
                call = "period(" + speed + ")";
                return new long[] {periodOrThrow(speed), model.period(speed)};
            }
            case 12: {
                long wish = number(0, 3000);
                call = "idle(" + wish + ")";
                return new long[] {rows.idle(wish), model.idle(wish)};
            }
            case 13: {
                int what = (int) number(0, 3);
                call = "sum(" + what + ")";
                return new long[] {rows.sum(what), model.sum(what)};
            }
            case 14: {
                long wish = number(0, 1000);
                int i = (int) number(0, 2);
                call = "split(" + wish + ", " + i + ")";
                return new long[] {rows.split(wish, i), model.split(wish, i)};
            }
            default: return limpOrTable();
        }
    }

    private long[] limpOrTable() {
        if (random.nextInt(3) > 0) {
            boolean on = seldom();
            call = "limp(" + on + ")";
            return new long[] {rows.limp(on), model.limp(on)};
        }
        int kind = (int) number(0, 4);
        int x = (int) number(0, 7);
        int y = (int) number(0, 7);
        long v = number(0, 1000);
        call = "table(" + kind + ", " + x + ", " + y + ", " + v + ")";
        return new long[] {rows.table(kind, x, y, v), model.table(kind, x, y, v)};
    }

    private long periodOrThrow(long speed) {
        try {
            return rows.period(speed);
        } catch (ArithmeticException e) {
            return Model.THROWS;
        }
    }
}
