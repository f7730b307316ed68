/** Short ways to bring an object of TorqueRows where a test wants it. */
final class Desk {
    static final int PEDAL = 0;
    static final int LIMP = 1;
    static final int AIR = 2;
    static final int FUEL = 3;
    static final int COST = 4;
    /** An int's 2^32 more: what a careless cast to int takes for the number itself. */
    static final long WRAP = 1L << 32;
    /** What periodOrThrow answers for a throw. */
    static final long THROWN = Long.MIN_VALUE;

    private Desk() {
    }

    static TorqueRows flat(int kind, long v) {
        TorqueRows rows = new TorqueRows();
        fill(rows, kind, v);
        return rows;
    }

    static void fill(TorqueRows rows, int kind, long v) {
        for (int x = 0; x < 8; x++) {
            for (int y = 0; y < 8; y++) {
                rows.table(kind, x, y, v);
            }
        }
    }

    static void steps(TorqueRows rows, int times, long pedal, long other, long speed) {
        for (int n = 0; n < times; n++) {
            rows.step(pedal, other, speed);
        }
    }

    static void monitors(TorqueRows rows, int times, long reported) {
        for (int n = 0; n < times; n++) {
            rows.monitor(reported);
        }
    }

    static void wishes(TorqueRows rows, int times, int rank, long v) {
        for (int n = 0; n < times; n++) {
            rows.wish(rank, v);
        }
    }

    static void loseTracks(TorqueRows rows) {
        rows.sensor(0, 1);
        rows.sensor(1, 1);
    }

    /** TORQUE is brought to v: up to 1000 in 25 steps, by a wish that outweighs all others. */
    static void torqueTo(TorqueRows rows, long v, long speed) {
        for (int n = 0; n < 25; n++) {
            rows.wish(5, v);
            rows.step(1, 1, speed);
        }
        Due.is("torque was brought to", rows.torque(), v);
    }

    static TorqueRows stoppedByWatch() {
        TorqueRows rows = new TorqueRows();
        monitors(rows, 8, 5000);
        return rows;
    }

    static TorqueRows stoppedByTracks() {
        TorqueRows rows = new TorqueRows();
        steps(rows, 5, 0, 51, 900);
        return rows;
    }

    static long periodOrThrow(TorqueRows rows, long speed) {
        try {
            return rows.period(speed);
        } catch (ArithmeticException e) {
            // The machine's own division must never be what throws.
            Due.isTrue("thrown by the program", !"/ by zero".equals(e.getMessage()));
            return THROWN;
        }
    }
}
