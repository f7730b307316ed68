/** Each promise of the document by its number: ordinary inputs, the named edges, wrong inputs. */
public final class PromisesTest {
    public static void main(String[] args) throws Exception {
        Cases.run(PromisesTest.class);
    }

    private static void values(String when, TorqueRows rows, long... want) {
        for (int what = 0; what < want.length; what++) {
            Due.is(when + " value(" + what + ")", rows.value(what), want[what]);
        }
    }

    static void promise1NewObject() {
        TorqueRows rows = new TorqueRows();
        Due.is("1 torque", rows.torque(), 0);
        values("1", rows, 0, 0, 0, 0, 0, 0, 0, 0);
        for (int what = 0; what < 4; what++) {
            Due.is("1 sum " + what, rows.sum(what), 0);
        }
        Due.is("1 four cylinders", Desk.periodOrThrow(rows, 1), 30000000);
        Due.is("1 the first bound", rows.bound(1000), 1000);
        Due.is("1 the first idle", rows.idle(800), 800);
        for (int which = 0; which < 3; which++) {
            Due.is("1 sensor good " + which, rows.sensor(which, 0), 0);
        }
        Due.is("1 limp is off and nothing stopped", rows.limp(false), 0);
        Due.is("1 no wish waits", rows.wish(1, 0), 1);
        for (int kind = 0; kind < 5; kind++) {
            for (int place = 0; place < 64; place++) {
                Due.is("1 table", rows.table(kind, place / 8, place % 8, 0), 0);
            }
        }
        TorqueRows other = new TorqueRows();
        rows.table(0, 0, 0, 7);
        rows.bound(3);
        Due.is("1 objects share no table", other.table(0, 0, 0, 0), 0);
        Due.is("1 objects share no bound", other.bound(0), 1000);
    }

    static void promise2Table() {
        TorqueRows rows = new TorqueRows();
        for (int n = 0; n < 320; n += 2) {
            rows.table(n / 64, n / 8 % 8, n % 8, n + 1);
        }
        for (int n = 0; n < 320; n++) {
            Due.is("2 what it was", rows.table(n / 64, n / 8 % 8, n % 8, 1000), n % 2 == 0 ? n + 1 : 0);
        }
        Due.is("2 kind -1", rows.table(-1, 0, 0, 0), -1);
        Due.is("2 kind 5", rows.table(5, 0, 0, 0), -1);
        Due.is("2 kind first", rows.table(5, 8, 8, 1001), -1);
        Due.is("2 kind least", rows.table(Integer.MIN_VALUE, 0, 0, 0), -1);
        Due.is("2 x -1", rows.table(0, -1, 0, 0), -2);
        Due.is("2 x 8", rows.table(0, 8, 0, 0), -2);
        Due.is("2 y -1", rows.table(4, 0, -1, 0), -2);
        Due.is("2 y 8", rows.table(4, 7, 8, 0), -2);
        Due.is("2 x most", rows.table(4, Integer.MAX_VALUE, 0, 0), -2);
        Due.is("2 v -1", rows.table(0, 0, 0, -1), -2);
        Due.is("2 v 1001", rows.table(0, 0, 0, 1001), -2);
        Due.is("2 v wider than an int", rows.table(0, 0, 0, 1L << 32), -2);
        Due.is("2 refusals change nothing", rows.table(0, 0, 0, 0), 1000);
        Due.is("2 nor the neighbours", rows.table(0, 7, 7, 0), 1000);
        Due.is("2 nor the last one", rows.table(4, 7, 7, 0), 1000);
    }

    private static void wantedAt(TorqueRows rows, long pedal, long speed, long want) {
        rows.step(pedal, pedal, speed);
        Due.is("2 the value at (" + pedal + ", " + speed + ")", rows.value(1), want);
    }

    static void promise2ValueBetweenPlaces() {
        TorqueRows rows = new TorqueRows();
        rows.table(Desk.PEDAL, 1, 1, 100);
        rows.table(Desk.PEDAL, 2, 1, 200);
        rows.table(Desk.PEDAL, 1, 2, 400);
        rows.table(Desk.PEDAL, 2, 2, 1000);
        wantedAt(rows, 128, 1000, 100);
        wantedAt(rows, 256, 1000, 200);
        wantedAt(rows, 128, 2000, 400);
        wantedAt(rows, 256, 2000, 1000);
        wantedAt(rows, 192, 1000, 150);
        wantedAt(rows, 128, 1500, 250);
        wantedAt(rows, 192, 1500, 425);
        wantedAt(rows, 129, 1000, 100);
        wantedAt(rows, 255, 1999, 994);
        wantedAt(rows, 127, 1000, 99);
        wantedAt(rows, 256, 2001, 999);
        wantedAt(rows, 384, 2000, 0);
        TorqueRows ends = new TorqueRows();
        ends.table(Desk.PEDAL, 7, 7, 1000);
        ends.table(Desk.PEDAL, 7, 6, 500);
        ends.table(Desk.PEDAL, 6, 7, 128);
        wantedAt(ends, 896, 7000, 1000);
        wantedAt(ends, 897, 7001, 1000);
        wantedAt(ends, 1000, 10000, 1000);
        wantedAt(ends, 895, 7000, 993);
        wantedAt(ends, 896, 6999, 999);
        wantedAt(ends, 1000, 6000, 500);
        wantedAt(ends, 768, 9999, 128);
        TorqueRows most = Desk.flat(Desk.PEDAL, 1000);
        wantedAt(most, 77, 3333, 1000);
    }

    static void promise3Refusals() {
        TorqueRows rows = Desk.flat(Desk.PEDAL, 500);
        rows.wish(1, 9);
        rows.step(100, 100, 1000);
        rows.wish(2, 9);
        long[][] none = {
            {-1, 0, 0}, {1001, 0, 0}, {0, -1, 0}, {0, 1001, 0}, {0, 0, -1}, {0, 0, 10001},
            {1L << 32, 0, 5}, {0, 1L << 40, 5}, {0, 0, (1L << 32) + 5}, {Long.MIN_VALUE, 0, 0}, {0, 0, Long.MAX_VALUE}
        };
        for (long[] row : none) {
            Due.is("3 a number is none", rows.step(row[0], row[1], row[2]), -2);
        }
        for (int which = 0; which < 3; which++) {
            rows.sensor(which, 1);
        }
        Due.is("3 a lost track too must be one", rows.step(1001, 0, 0), -2);
        Due.is("3 a lost speed too must be one", rows.step(0, 0, 10001), -2);
        values("3 after refusals", rows, 100, 500, 0, 0, 0, 0, 0, 1000);
        Due.is("3 torque after refusals", rows.torque(), 40);
        Due.is("3 no step was counted", rows.sum(0), 1);
        Due.is("3 the wish still waits", rows.wish(2, 9), 2);
        TorqueRows edges = new TorqueRows();
        Due.is("3 the least numbers", edges.step(0, 0, 0), 3);
        Due.is("3 the greatest numbers", edges.step(1000, 1000, 10000), 0);
    }

    static void promise3SpeedAndTracks() {
        TorqueRows rows = new TorqueRows();
        rows.sensor(2, 1);
        Due.is("3 a lost speed is 0 in the first step", rows.step(5, 5, 4000), 3);
        Due.is("3 and stays", rows.value(7), 0);
        rows.sensor(2, 0);
        rows.step(5, 5, 4000);
        rows.sensor(2, 1);
        Due.is("3 a lost speed limps", rows.step(5, 5, 0), 2);
        rows.step(5, 5, 10);
        Due.is("3 a lost speed is that before", rows.value(7), 4000);
        rows.sensor(2, 0);
        rows.step(30, 20, 50);
        Due.is("3 the lesser track is the second", rows.value(0), 20);
        rows.step(15, 20, 50);
        Due.is("3 the lesser track is the first", rows.value(0), 15);
        rows.sensor(0, 1);
        Due.is("3 first track lost", rows.step(1, 700, 50), 2);
        Due.is("3 it is the second", rows.value(0), 700);
        rows.sensor(0, 0);
        rows.sensor(1, 1);
        Due.is("3 second track lost", rows.step(600, 1, 50), 2);
        Due.is("3 it is the first", rows.value(0), 600);
        rows.sensor(0, 1);
        Due.is("3 both tracks lost", rows.step(600, 600, 50), 4);
        Due.is("3 no pedal in mode 4", rows.value(0), 0);
        Due.is("3 the speed is taken in mode 4", rows.value(7), 50);
    }

    static void promise3DifferentTracks() {
        TorqueRows rows = new TorqueRows();
        Due.is("3 50 apart", rows.step(100, 150, 900), 0);
        Due.is("3 51 apart", rows.step(100, 151, 900), 1);
        Due.is("3 51 apart the other way", rows.step(151, 100, 900), 1);
        Due.is("3 two different", rows.value(5), 2);
        rows.sensor(0, 1);
        rows.step(0, 1000, 900);
        Due.is("3 a lost track is not different", rows.value(5), 0);
        rows.sensor(0, 0);
        Desk.steps(rows, 4, 0, 1000, 900);
        Due.is("3 four different", rows.value(5), 4);
        rows.step(0, 50, 900);
        Due.is("3 then alike", rows.value(5), 0);
        Desk.steps(rows, 4, 0, 1000, 900);
        Due.is("3 the fifth stops at once", rows.step(1000, 70, 900), 4);
        Due.is("3 five different", rows.value(5), 5);
        Due.is("3 no pedal when stopped", rows.value(0), 0);
        Due.is("3 it goes on to count", rows.step(0, 51, 900), 4);
        Due.is("3 six different", rows.value(5), 6);
        Due.is("3 alike does not start it", rows.step(5, 5, 900), 4);
        Due.is("3 and counts from 0", rows.value(5), 0);
        Due.is("3 stopped for the watch", rows.monitor(0), -3);
        TorqueRows standing = new TorqueRows();
        Desk.steps(standing, 4, 0, 51, 0);
        Due.is("3 counted while standing", standing.value(5), 4);
        Due.is("3 stops before standing", standing.step(0, 51, 0), 4);
    }

    static void promise3Modes() {
        TorqueRows rows = new TorqueRows();
        Due.is("3 mode 0", rows.step(9, 9, 1), 0);
        Due.is("3 mode 1", rows.step(9, 99, 1), 1);
        rows.limp(true);
        Due.is("3 mode 2 before 1", rows.step(9, 99, 1), 2);
        Due.is("3 mode 3 before 2", rows.step(9, 9, 0), 3);
        Due.is("3 the pedal stays in mode 3", rows.value(0), 9);
        rows.sensor(0, 1);
        rows.sensor(1, 1);
        Due.is("3 mode 4 before 3", rows.step(9, 9, 0), 4);
        Due.is("3 value(6)", rows.value(6), 4);
    }

    static void promise3Wanted() {
        TorqueRows rows = Desk.flat(Desk.PEDAL, 333);
        Desk.fill(rows, Desk.LIMP, 77);
        rows.step(200, 200, 1000);
        Due.is("3 wanted in 0", rows.value(1), 333);
        rows.step(200, 251, 1000);
        Due.is("3 wanted in 1 is half", rows.value(1), 166);
        rows.limp(true);
        rows.step(200, 200, 1000);
        Due.is("3 wanted in 2", rows.value(1), 77);
        rows.wish(1, 900);
        rows.step(200, 200, 0);
        Due.is("3 wanted in 3", rows.value(1), 0);
        Due.is("3 torque in 3", rows.torque(), 0);
        rows.sensor(0, 1);
        rows.sensor(1, 1);
        rows.wish(1, 900);
        rows.step(200, 200, 1000);
        Due.is("3 wanted in 4", rows.value(1), 0);
        Due.is("3 no wish waits after 3 and 4", rows.wish(1, 1), 1);
    }

    private static void idleStep(TorqueRows rows, long speed, long wanted, long stored) {
        rows.step(0, 0, speed);
        Due.is("3 idle wanted at " + speed, rows.value(1), wanted);
        Due.is("3 idle stored at " + speed, rows.value(4), stored);
    }

    static void promise3Idle() {
        TorqueRows rows = new TorqueRows();
        idleStep(rows, 400, 100, 400);
        idleStep(rows, 400, 125, 800);
        idleStep(rows, 400, 150, 1200);
        idleStep(rows, 400, 175, 1600);
        // Exactly 200 is not above 200: the store still grows.
        idleStep(rows, 400, 200, 2000);
        idleStep(rows, 400, 200, 2000);
        idleStep(rows, 800, 125, 2000);
        idleStep(rows, 900, 100, 1900);
        // Exactly 0 is not below 0: the store still shrinks.
        idleStep(rows, 1275, 0, 1425);
        idleStep(rows, 1500, 0, 1425);
        rows.step(0, 0, 0);
        Due.is("3 no store in 3", rows.value(4), 0);
        idleStep(rows, 400, 100, 400);
        rows.step(1, 1, 400);
        Due.is("3 no store with a pedal", rows.value(4), 0);
        Due.is("3 no idle with a pedal", rows.value(1), 0);
        idleStep(rows, 400, 100, 400);
        rows.sensor(0, 1);
        idleStep(rows, 400, 125, 800);
        rows.sensor(1, 1);
        rows.step(0, 0, 400);
        Due.is("3 no store in 4", rows.value(4), 0);
        Due.is("3 no idle in 4", rows.value(1), 0);
        TorqueRows different = new TorqueRows();
        Due.is("3 idle in 1", different.step(0, 51, 400), 1);
        Due.is("3 idle wanted in 1", different.value(1), 100);
        TorqueRows wished = Desk.flat(Desk.PEDAL, 90);
        wished.wish(4, 20);
        idleStep(wished, 750, 20, 50);
        idleStep(wished, 750, 90, 100);
    }

    static void promise3IdleRounding() {
        TorqueRows rows = new TorqueRows();
        // -4 / 16 is -1 towards smaller ones, so the store stays; towards 0 it would be -1.
        idleStep(rows, 801, 0, 0);
        idleStep(rows, 790, 2, 10);
        // (4 * -3 + 10) / 16 is below 0 as well.
        idleStep(rows, 803, 0, 10);
        // (4 * -2 + 10) / 16 is 0: not below 0.
        idleStep(rows, 802, 0, 8);
        idleStep(rows, 802, 0, 6);
        idleStep(rows, 802, 0, 6);
        TorqueRows above = new TorqueRows();
        above.idle(3000);
        idleStep(above, 2196, 200, 0);
        idleStep(above, 2197, 200, 803);
    }

    /** The store at the most that it can ever be: e = 1 goes in while o is 200, and no more at 201. */
    static void promise3IdleFull() {
        TorqueRows rows = new TorqueRows();
        rows.idle(801);
        for (int n = 0; n < 100 && rows.value(4) < 3212; n++) {
            long e = Math.min(800, (3215 - rows.value(4)) / 4);
            rows.step(0, 0, 801 - e);
        }
        Due.is("3 the fullest store", rows.value(4), 3212);
        idleStep(rows, 800, 200, 3212);
        idleStep(rows, 801, 200, 3212);
        idleStep(rows, 802, 200, 3211);
    }

    static void promise3BoundAndRamp() {
        TorqueRows rows = Desk.flat(Desk.PEDAL, 130);
        long[] up = {40, 80, 120, 130, 130};
        for (long want : up) {
            rows.step(10, 10, 1000);
            Due.is("3 up", rows.torque(), want);
        }
        Desk.fill(rows, Desk.PEDAL, 90);
        rows.step(10, 10, 1000);
        Due.is("3 a little down", rows.torque(), 90);
        Desk.fill(rows, Desk.PEDAL, 9);
        rows.step(10, 10, 1000);
        Due.is("3 at most 80 down", rows.torque(), 10);
        rows.step(10, 10, 1000);
        Due.is("3 to the end", rows.torque(), 9);
        TorqueRows bounded = Desk.flat(Desk.PEDAL, 500);
        bounded.bound(30);
        bounded.wish(5, 700);
        bounded.step(10, 10, 1000);
        Due.is("3 wanted is at most the bound", bounded.value(1), 30);
        Due.is("3 and so is the torque", bounded.torque(), 30);
        bounded.bound(0);
        bounded.step(0, 0, 100);
        Due.is("3 the idle too", bounded.value(1), 0);
        Due.is("3 while it is stored", bounded.value(4), 700);
        TorqueRows fallen = Desk.flat(Desk.PEDAL, 1000);
        Desk.steps(fallen, 10, 10, 10, 1000);
        Due.is("3 400 up", fallen.torque(), 400);
        fallen.step(10, 10, 0);
        Due.is("3 no ramp in 3", fallen.torque(), 0);
        Desk.steps(fallen, 10, 10, 10, 1000);
        fallen.sensor(0, 1);
        fallen.sensor(1, 1);
        fallen.step(10, 10, 1000);
        Due.is("3 no ramp in 4", fallen.torque(), 0);
    }

    static void promise3AirAndFuel() {
        TorqueRows rows = Desk.flat(Desk.PEDAL, 500);
        rows.table(Desk.AIR, 0, 1, 128);
        rows.table(Desk.AIR, 1, 1, 256);
        rows.table(Desk.FUEL, 1, 1, 100);
        rows.table(Desk.FUEL, 2, 1, 228);
        rows.step(100, 100, 1000);
        Due.is("3 air at the torque", rows.value(2), 168);
        Due.is("3 fuel at the air", rows.value(3), 140);
        rows.step(100, 100, 0);
        Due.is("3 no fuel in 3", rows.value(3), 0);
        Desk.fill(rows, Desk.AIR, 300);
        Desk.fill(rows, Desk.FUEL, 50);
        rows.step(100, 100, 0);
        Due.is("3 no fuel in 3 from a full table", rows.value(3), 0);
        Due.is("3 air in 3", rows.value(2), 300);
        rows.sensor(0, 1);
        rows.sensor(1, 1);
        rows.step(100, 100, 1000);
        Due.is("3 no fuel in 4", rows.value(3), 0);
        Due.is("3 air in 4", rows.value(2), 300);
        TorqueRows cut = Desk.flat(Desk.FUEL, 50);
        cut.step(0, 0, 1500);
        Due.is("3 fuel at 1500", cut.value(3), 50);
        cut.step(0, 0, 1501);
        Due.is("3 no fuel above 1500", cut.value(3), 0);
        cut.step(1, 1, 1501);
        Due.is("3 fuel with a pedal", cut.value(3), 50);
        cut.wish(1, 1);
        cut.step(0, 0, 1501);
        Due.is("3 fuel with a torque", cut.value(3), 50);
    }

    static void promise4Torque() {
        TorqueRows rows = Desk.flat(Desk.PEDAL, 1000);
        for (long want = 40; want <= 1000; want += 40) {
            rows.step(500, 500, 3000);
            Due.is("4 torque", rows.torque(), want);
            Due.is("4 torque again", rows.torque(), want);
        }
        rows.step(500, 500, 3000);
        Due.is("4 no more than wanted", rows.torque(), 1000);
    }

    static void promise5Value() {
        TorqueRows rows = Desk.flat(Desk.PEDAL, 610);
        Desk.fill(rows, Desk.AIR, 20);
        Desk.fill(rows, Desk.FUEL, 30);
        rows.step(90, 900, 2500);
        values("5", rows, 90, 305, 20, 30, 0, 1, 1, 2500);
        rows.step(0, 0, 700);
        values("5 idle", rows, 0, 610, 20, 30, 100, 0, 0, 700);
        Due.is("5 what -1", rows.value(-1), -2);
        Due.is("5 what 8", rows.value(8), -2);
        Due.is("5 what least", rows.value(Integer.MIN_VALUE), -2);
        Due.is("5 what most", rows.value(Integer.MAX_VALUE), -2);
    }

    static void promise6Wish() {
        TorqueRows rows = new TorqueRows();
        Due.is("6 rank 0", rows.wish(0, 5), -1);
        Due.is("6 rank 6", rows.wish(6, 5), -1);
        Due.is("6 rank first", rows.wish(6, -5), -1);
        Due.is("6 rank most", rows.wish(Integer.MAX_VALUE, 5), -1);
        Due.is("6 v -1", rows.wish(1, -1), -2);
        Due.is("6 v 1001", rows.wish(5, 1001), -2);
        Due.is("6 v wider than an int", rows.wish(5, 1L << 32), -2);
        for (int n = 1; n <= 16; n++) {
            Due.is("6 how many wait", rows.wish(1 + n % 5, 1000), n);
        }
        Due.is("6 no room", rows.wish(4, 0), -4);
        Due.is("6 unknown before no room", rows.wish(0, 0), -1);
        Due.is("6 range before no room", rows.wish(1, 1001), -2);
        rows.step(1, 1, 1);
        Due.is("6 what found no room does not count", rows.value(1), 1000);
        Due.is("6 none waits after a step", rows.wish(5, 0), 1);
    }

    private static void wished(long want, int... ranksAndTorques) {
        TorqueRows rows = Desk.flat(Desk.PEDAL, 300);
        for (int n = 0; n < ranksAndTorques.length; n += 2) {
            rows.wish(ranksAndTorques[n], ranksAndTorques[n + 1]);
        }
        rows.step(100, 100, 1000);
        Due.is("6 wanted with " + java.util.Arrays.toString(ranksAndTorques), rows.value(1), want);
        rows.step(100, 100, 1000);
        Due.is("6 a wish counts once", rows.value(1), 300);
    }

    static void promise6WishesByRanks() {
        wished(300);
        wished(400, 1, 400);
        wished(400, 3, 400);
        wished(400, 5, 400);
        wished(300, 1, 200);
        wished(200, 2, 200);
        wished(200, 4, 200);
        wished(300, 2, 400);
        wished(300, 4, 400);
        wished(0, 2, 0);
        wished(1000, 5, 1000);
        wished(400, 1, 900, 1, 400, 1, 500);
        wished(100, 2, 250, 2, 100, 2, 200);
        wished(700, 5, 700, 4, 100);
        wished(100, 4, 100, 3, 700);
        wished(700, 3, 700, 2, 100);
        wished(100, 2, 100, 1, 700);
        wished(250, 1, 900, 2, 50, 3, 400, 4, 250, 5, 10);
        wished(310, 5, 310, 4, 10, 3, 500, 2, 20, 1, 600);
        TorqueRows kept = Desk.flat(Desk.PEDAL, 300);
        kept.wish(2, 100);
        kept.step(-1, 0, 0);
        kept.step(100, 100, 1000);
        Due.is("6 a wish outlives a refused step", kept.value(1), 100);
    }

    static void promise7Bound() {
        TorqueRows rows = new TorqueRows();
        Due.is("7 to 0", rows.bound(0), 1000);
        Due.is("7 to 1000", rows.bound(1000), 0);
        Due.is("7 to 5", rows.bound(5), 1000);
        Due.is("7 -1", rows.bound(-1), -2);
        Due.is("7 1001", rows.bound(1001), -2);
        Due.is("7 wider than an int", rows.bound((1L << 32) + 7), -2);
        Due.is("7 least", rows.bound(Long.MIN_VALUE), -2);
        Due.is("7 refusals change nothing", rows.bound(5), 5);
    }

    static void promise8Monitor() {
        TorqueRows rows = new TorqueRows();
        Due.is("8 30 at first", rows.monitor(30), 0);
        Due.is("8 31 at first", rows.monitor(31), 1);
        Due.is("8 any number", rows.monitor(Long.MAX_VALUE), 2);
        Due.is("8 the least number", rows.monitor(Long.MIN_VALUE), 0);
        Desk.fill(rows, Desk.PEDAL, 100);
        Desk.steps(rows, 3, 10, 10, 1000);
        Due.is("8 not over wanted", rows.monitor(130), 0);
        Due.is("8 over wanted", rows.monitor(131), 1);
        rows.step(10, 10, 1000);
        Due.is("8 a step does not end it", rows.monitor(131), 2);
        Desk.fill(rows, Desk.PEDAL, 10);
        rows.step(10, 10, 1000);
        Due.is("8 torque came down", rows.torque(), 20);
        Due.is("8 not over the torque before", rows.monitor(100), 0);
        Due.is("8 over the torque before", rows.monitor(101), 1);
        rows.step(10, 10, 1000);
        Due.is("8 the torque before is that of the last step", rows.monitor(41), 2);
        Due.is("8 and wanted counts", rows.monitor(40), 0);
        Desk.fill(rows, Desk.PEDAL, 900);
        rows.bound(50);
        rows.step(10, 10, 1000);
        Due.is("8 wanted is the bounded one", rows.monitor(81), 1);
        Due.is("8 wanted is the bounded one, edge", rows.monitor(80), 0);
        rows.step(10, 10, -1);
        Due.is("8 a refused step leaves the torque before", rows.monitor(81), 1);
    }

    static void promise8Stops() {
        TorqueRows rows = new TorqueRows();
        for (int n = 1; n <= 7; n++) {
            Due.is("8 one behind the other", rows.monitor(500), n);
        }
        Due.is("8 seven do not stop", rows.step(0, 0, 900), 0);
        Due.is("8 one is not", rows.monitor(30), 0);
        for (int n = 1; n <= 8; n++) {
            Due.is("8 again", rows.monitor(500), n);
        }
        Due.is("8 stopped", rows.monitor(500), -3);
        Due.is("8 stopped for all numbers", rows.monitor(0), -3);
        Due.is("8 the desk is stopped", rows.step(5, 5, 900), 4);
        Due.is("8 the desk stays stopped", rows.step(5, 5, 900), 4);
        TorqueRows lost = new TorqueRows();
        lost.sensor(0, 1);
        lost.sensor(1, 1);
        lost.step(0, 0, 900);
        Due.is("8 mode 4 alone is not stopped", lost.monitor(500), 1);
    }

    static void promise9Sensor() {
        TorqueRows rows = new TorqueRows();
        for (int which = 0; which < 3; which++) {
            Due.is("9 was good", rows.sensor(which, 1), 0);
            Due.is("9 was lost", rows.sensor(which, 1), 1);
            Due.is("9 was lost still", rows.sensor(which, 0), 1);
            Due.is("9 was good again", rows.sensor(which, 0), 0);
        }
        Due.is("9 sensor -1", rows.sensor(-1, 0), -1);
        Due.is("9 sensor 3", rows.sensor(3, 0), -1);
        Due.is("9 sensor first", rows.sensor(3, 2), -1);
        rows.sensor(1, 1);
        Due.is("9 kind -1", rows.sensor(1, -1), -2);
        Due.is("9 kind 2", rows.sensor(1, 2), -2);
        Due.is("9 kind most", rows.sensor(1, Integer.MAX_VALUE), -2);
        Due.is("9 refusals change nothing", rows.sensor(1, 1), 1);
        Due.is("9 the others are their own", rows.sensor(0, 0), 0);
    }

    static void promise10Cylinder() {
        TorqueRows rows = new TorqueRows();
        for (int n = 1; n <= 12; n++) {
            Due.is("10 so many", rows.cylinder(n), 1);
            Due.is("10 period", Desk.periodOrThrow(rows, 1), 120000000L / n);
        }
        int[] none = {0, 13, -1, Integer.MIN_VALUE, Integer.MAX_VALUE};
        for (int n : none) {
            Due.is("10 not so many", rows.cylinder(n), 0);
            Due.is("10 nothing changes", Desk.periodOrThrow(rows, 1), 10000000);
        }
    }

    static void promise11Period() {
        TorqueRows rows = new TorqueRows();
        Due.is("11 at 10000", Desk.periodOrThrow(rows, 10000), 3000);
        Due.is("11 at 7", Desk.periodOrThrow(rows, 7), 4285714);
        Due.is("11 at 9999", Desk.periodOrThrow(rows, 9999), 3000);
        Due.is("11 at 0 throws", Desk.periodOrThrow(rows, 0), Desk.THROWN);
        Due.is("11 -1", Desk.periodOrThrow(rows, -1), -2);
        Due.is("11 10001", Desk.periodOrThrow(rows, 10001), -2);
        Due.is("11 most", Desk.periodOrThrow(rows, Long.MAX_VALUE), -2);
        // Four times this is 0 in a long: it must be refused, not divided by.
        Due.is("11 wraps to 0", Desk.periodOrThrow(rows, 1L << 62), -2);
        Due.is("11 least", Desk.periodOrThrow(rows, Long.MIN_VALUE), -2);
        rows.cylinder(11);
        Due.is("11 towards 0", Desk.periodOrThrow(rows, 9973), 1093);
    }

    static void promise12Idle() {
        TorqueRows rows = new TorqueRows();
        Due.is("12 to 0", rows.idle(0), 800);
        Due.is("12 to 3000", rows.idle(3000), 0);
        Due.is("12 -1", rows.idle(-1), -2);
        Due.is("12 3001", rows.idle(3001), -2);
        Due.is("12 wider than an int", rows.idle(1L << 33), -2);
        Due.is("12 refusals change nothing", rows.idle(1000), 3000);
        rows.step(0, 0, 600);
        Due.is("12 the idle is taken", rows.value(1), 100);
    }

    private static void sums(String when, TorqueRows rows, long... want) {
        for (int what = 0; what < want.length; what++) {
            Due.is("13 " + when + " sum(" + what + ")", rows.sum(what), want[what]);
        }
    }

    static void promise13Sum() {
        TorqueRows rows = Desk.flat(Desk.PEDAL, 1000);
        Desk.fill(rows, Desk.FUEL, 11);
        rows.step(9, 9, 1000);
        sums("one", rows, 1, 40000, 11, 0);
        rows.step(9, 9, 10000);
        sums("two", rows, 2, 840000, 22, 0);
        rows.step(9, 9, 0);
        sums("standing", rows, 3, 840000, 22, 0);
        rows.step(9, 9, 10001);
        sums("refused", rows, 3, 840000, 22, 0);
        rows.sensor(0, 1);
        rows.sensor(1, 1);
        rows.step(9, 9, 1000);
        rows.step(9, 9, 0);
        sums("stopped", rows, 5, 840000, 22, 2);
        rows.sensor(0, 0);
        rows.sensor(2, 1);
        rows.step(9, 9, 500);
        sums("standing on a lost speed", rows, 6, 840000, 22, 2);
        Due.is("13 what -1", rows.sum(-1), -2);
        Due.is("13 what 4", rows.sum(4), -2);
        TorqueRows large = Desk.flat(Desk.PEDAL, 1000);
        Desk.steps(large, 425, 9, 9, 10000);
        Due.is("13 sums wider than an int", large.sum(1), 4130000000L);
    }

    private static void shares(TorqueRows rows, long wish, long left, long motor, long cost) {
        Due.is("14 left of " + wish, rows.split(wish, 0), left);
        Due.is("14 motor of " + wish, rows.split(wish, 1), motor);
        Due.is("14 cost of " + wish, rows.split(wish, 2), cost);
    }

    static void promise14Split() {
        TorqueRows rows = new TorqueRows();
        for (int x = 1; x < 8; x++) {
            rows.table(Desk.COST, x, 0, 1000);
        }
        shares(rows, 0, 0, 0, 0);
        shares(rows, 7, 7, 0, 54);
        shares(rows, 49, 49, 0, 382);
        shares(rows, 50, 0, 50, 62);
        shares(rows, 51, 1, 50, 69);
        shares(rows, 99, 49, 50, 444);
        shares(rows, 100, 0, 100, 150);
        shares(rows, 250, 0, 250, 562);
        shares(rows, 300, 0, 300, 750);
        // 350 costs 350 + 612 alone, 300 and the 50 left 750 + 390.
        shares(rows, 350, 0, 350, 962);
        shares(rows, 400, 400, 0, 1000);
        shares(rows, 1000, 1000, 0, 1000);
        TorqueRows most = new TorqueRows();
        most.table(Desk.COST, 4, 0, 1000);
        most.table(Desk.COST, 5, 0, 1000);
        most.table(Desk.COST, 3, 0, 1000);
        // The greatest motor that can ever pay: 400 costs 1200, and a table's value is 1000 at most.
        shares(most, 600, 250, 350, 962);
        most.step(0, 0, 1000);
        Due.is("14 at the speed of the last step", most.split(600, 1), 0);
        most.sensor(2, 1);
        most.step(0, 0, 0);
        Due.is("14 at a speed that is kept", most.split(600, 1), 0);
        TorqueRows last = new TorqueRows();
        last.table(Desk.COST, 7, 7, 700);
        last.step(0, 0, 10000);
        // 700 with no motor, 62 + 426, 150 + 153, and then 262 with nothing to pay for the 746 left.
        shares(last, 896, 746, 150, 262);
        shares(last, 1000, 750, 250, 562);
        shares(last, 779, 779, 0, 60);
        shares(last, 780, 730, 50, 62);
        Due.is("14 wish -1", rows.split(-1, 0), -2);
        Due.is("14 wish 1001", rows.split(1001, 0), -2);
        Due.is("14 wish wider than an int", rows.split(1L << 32, 0), -2);
        Due.is("14 i -1", rows.split(5, -1), -2);
        Due.is("14 i 3", rows.split(5, 3), -2);
    }

    static void promise14SplitTies() {
        TorqueRows rows = Desk.flat(Desk.COST, 62);
        rows.table(Desk.COST, 0, 0, 0);
        rows.table(Desk.COST, 1, 0, 128);
        // 62 for the motor's 50 alone; without it 50 at 50 torques.
        shares(rows, 50, 50, 0, 50);
        TorqueRows tie = new TorqueRows();
        tie.table(Desk.COST, 1, 0, 159);
        // 50 torques cost 62 at this table, as the motor's 50 do: the lesser motor is taken.
        shares(tie, 50, 50, 0, 62);
        tie.table(Desk.COST, 1, 0, 162);
        shares(tie, 50, 0, 50, 62);
        TorqueRows inner = new TorqueRows();
        inner.table(Desk.COST, 1, 0, 226);
        // 50 costs 62 + 88, 100 costs 150 + 0, no motor 176.
        shares(inner, 100, 50, 50, 150);
        TorqueRows near = new TorqueRows();
        near.table(Desk.COST, 1, 0, 160);
        shares(near, 51, 51, 0, 63);
        shares(near, 52, 2, 50, 64);
    }

    static void promise15Limp() {
        TorqueRows rows = new TorqueRows();
        Due.is("15 was off", rows.limp(false), 0);
        Due.is("15 on", rows.limp(true), 1);
        Due.is("15 was on", rows.limp(true), 0);
        Due.is("15 limps", rows.step(5, 5, 100), 2);
        Due.is("15 off", rows.limp(false), 1);
        Due.is("15 limps no more", rows.step(5, 5, 100), 0);
        for (int n = 0; n < 8; n++) {
            rows.monitor(5000);
        }
        Due.is("15 on while stopped", rows.limp(true), 1);
        Due.is("15 on does not start", rows.step(5, 5, 100), 4);
        Due.is("15 on again while stopped", rows.limp(true), 0);
        Due.is("15 nor then", rows.monitor(0), -3);
        Due.is("15 off starts", rows.limp(false), 1);
        Due.is("15 it drives", rows.step(5, 5, 100), 0);
        Desk.steps(rows, 5, 0, 500, 100);
        Due.is("15 off when it was off, but stopped", rows.limp(false), 1);
        Due.is("15 off when nothing was", rows.limp(false), 0);
        Due.is("15 different again", rows.step(0, 500, 100), 1);
    }

    static void promise15BeginsAtZero() {
        TorqueRows rows = new TorqueRows();
        Desk.steps(rows, 4, 0, 500, 100);
        for (int n = 0; n < 7; n++) {
            rows.monitor(5000);
        }
        Due.is("15 off while nothing is stopped", rows.limp(false), 0);
        Due.is("15 different is 0", rows.value(5), 0);
        Due.is("15 different begins at 0", rows.step(0, 500, 100), 1);
        Due.is("15 different is 1", rows.value(5), 1);
        Due.is("15 too much begins at 0", rows.monitor(5000), 1);
        Desk.steps(rows, 3, 0, 500, 100);
        rows.limp(true);
        Due.is("15 on keeps the different", rows.step(0, 500, 100), 4);
        rows.limp(false);
        rows.monitor(5000);
        rows.limp(true);
        Due.is("15 on keeps too much", rows.monitor(5000), 2);
    }
}
