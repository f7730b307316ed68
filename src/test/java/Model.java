import java.util.ArrayList;
import java.util.List;

/**
 * The document once more, told in other ways than the program tells it: wishes as a list, a table's value as a
 * sum over all its places, the shares by looking at all of them. ModelTest holds the two against each other.
 */
final class Model {
    static final long THROWS = Long.MIN_VALUE;

    private final long[][][] tables = new long[5][8][8];
    private final boolean[] lost = new boolean[3];
    private final List<long[]> wishes = new ArrayList<>();
    private final long[] last = new long[8];
    private final long[] sums = new long[4];
    private long idle = 800;
    private long bound = 1000;
    private long cylinders = 4;
    private long torque = 0;
    private long torqueBefore = 0;
    private long tooMuch = 0;
    private boolean limp = false;
    private boolean stopped = false;

    private static boolean in(long v, long low, long high) {
        return low <= v && v <= high;
    }

    private long at(int kind, long a, long s) {
        long nearA = Math.min(a, 896);
        long nearS = Math.min(s, 7000);
        long all = 0;
        for (int x = 0; x < 8; x++) {
            for (int y = 0; y < 8; y++) {
                long weightX = Math.max(0, 128 - Math.abs(nearA - 128 * x));
                long weightY = Math.max(0, 1000 - Math.abs(nearS - 1000 * y));
                all += tables[kind][x][y] * weightX * weightY;
            }
        }
        return all / 128000;
    }

    long table(int kind, int x, int y, long v) {
        if (!in(kind, 0, 4)) return -1;
        if (!in(x, 0, 7) || !in(y, 0, 7) || !in(v, 0, 1000)) return -2;
        long was = tables[kind][x][y];
        tables[kind][x][y] = v;
        return was;
    }

    long step(long pedal, long other, long speed) {
        if (!in(pedal, 0, 1000) || !in(other, 0, 1000) || !in(speed, 0, 10000)) return -2;
        long now = lost[2] ? last[7] : speed;
        boolean apart = !lost[0] && !lost[1] && (pedal - other > 50 || other - pedal > 50);
        long different = apart ? last[5] + 1 : 0;
        if (different == 5) stopped = true;
        long foot = lost[0] ? other : lost[1] ? pedal : Math.min(pedal, other);
        long mode = 0;
        if (different > 0) mode = 1;
        if (limp || lost[0] || lost[1] || lost[2]) mode = 2;
        if (now == 0) mode = 3;
        if (stopped || (lost[0] && lost[1])) mode = 4;
        if (mode == 4) foot = 0;
        long wanted = mode == 0 ? at(0, foot, now) : mode == 1 ? at(0, foot, now) / 2 : mode == 2 ? at(1, foot, now) : 0;
        if (mode < 3) wanted = wishedFrom(wanted);
        wishes.clear();
        long stored = 0;
        if (foot == 0 && mode < 3) {
            long e = idle - now;
            long o = (long) Math.floor((4 * e + last[4]) / 16.0);
            boolean stays = e > 0 ? o > 200 : e < 0 && o < 0;
            stored = stays ? last[4] : last[4] + e;
            wanted = Math.max(wanted, o < 0 ? 0 : o > 200 ? 200 : o);
        }
        wanted = Math.min(wanted, bound);
        torqueBefore = torque;
        if (mode > 2) torque = 0;
        else if (wanted > torque) torque = Math.min(wanted, torque + 40);
        else torque = Math.max(wanted, torque - 80);
        long air = at(2, torque, now);
        long fuel = mode > 2 || (foot == 0 && torque == 0 && now > 1500) ? 0 : at(3, air, now);
        long[] told = {foot, wanted, air, fuel, stored, different, mode, now};
        System.arraycopy(told, 0, last, 0, 8);
        sums[0]++;
        sums[1] += torque * now;
        sums[2] += fuel;
        sums[3] += mode == 4 ? 1 : 0;
        return mode;
    }

    private long wishedFrom(long wanted) {
        long now = wanted;
        wishes.sort((a, b) -> a[0] != b[0] ? Long.compare(a[0], b[0]) : Long.compare(a[1], b[1]));
        long rank = 0;
        for (long[] wish : wishes) {
            if (wish[0] == rank) continue;
            rank = wish[0];
            now = rank == 2 || rank == 4 ? Math.min(now, wish[1]) : Math.max(now, wish[1]);
        }
        return now;
    }

    long torque() {
        return torque;
    }

    long value(int what) {
        return in(what, 0, 7) ? last[what] : -2;
    }

    long wish(int rank, long v) {
        if (!in(rank, 1, 5)) return -1;
        if (!in(v, 0, 1000)) return -2;
        if (wishes.size() == 16) return -4;
        wishes.add(new long[] {rank, v});
        return wishes.size();
    }

    long bound(long v) {
        if (!in(v, 0, 1000)) return -2;
        long was = bound;
        bound = v;
        return was;
    }

    long monitor(long reported) {
        if (stopped) return -3;
        tooMuch = reported > Math.max(last[1] + 30, torqueBefore) ? tooMuch + 1 : 0;
        stopped = tooMuch == 8;
        return tooMuch;
    }

    long sensor(int which, int kind) {
        if (!in(which, 0, 2)) return -1;
        if (!in(kind, 0, 1)) return -2;
        long was = lost[which] ? 1 : 0;
        lost[which] = kind == 1;
        return was;
    }

    long cylinder(int n) {
        if (!in(n, 1, 12)) return 0;
        cylinders = n;
        return 1;
    }

    long period(long speed) {
        if (!in(speed, 0, 10000)) return -2;
        return speed == 0 ? THROWS : 120000000 / (speed * cylinders);
    }

    long idle(long wish) {
        if (!in(wish, 0, 3000)) return -2;
        long was = idle;
        idle = wish;
        return was;
    }

    long sum(int what) {
        return in(what, 0, 3) ? sums[what] : -2;
    }

    long split(long wish, int i) {
        if (!in(wish, 0, 1000) || !in(i, 0, 2)) return -2;
        long[] best = null;
        for (long m = 400; m >= 0; m -= 50) {
            if (m > wish) continue;
            long cost = m + m * m / 200 + at(4, wish - m, last[7]);
            if (best == null || cost <= best[2]) best = new long[] {wish - m, m, cost};
        }
        return best[i];
    }

    long limp(boolean on) {
        boolean same = limp == on && (on || !stopped);
        limp = on;
        if (!on) {
            stopped = false;
            last[5] = 0;
            tooMuch = 0;
        }
        return same ? 0 : 1;
    }
}
