/** The edges of promise 3 (step), points 3 to 6: what is wanted, the idle, the bound, the ramp, air and fuel. */
public final class WantedEdgesTest {
    public static void main(String[] args) throws Exception {
        Cases.run(WantedEdgesTest.class);
    }

    private static TorqueRows mode1(long pedalTable) {
        TorqueRows rows = Desk.flat(Desk.PEDAL, pedalTable);
        Due.is("MODE", rows.step(5, 56, 1000), 1);
        return rows;
    }

    // "WANTED is 0 in MODES 3 and 4"

    static void promise3_wantedIs0InMode3() {
        TorqueRows rows = Desk.flat(Desk.PEDAL, 500);
        Desk.fill(rows, Desk.LIMP, 400);
        rows.wish(1, 300);
        rows.step(5, 5, 0);
        Due.is("WANTED", rows.value(1), 0);
        rows.limp(true);
        rows.step(0, 0, 0);
        Due.is("WANTED with LIMP on and no PEDAL", rows.value(1), 0);
    }

    static void promise3_wantedIs0InMode4() {
        TorqueRows rows = Desk.flat(Desk.PEDAL, 500);
        Desk.fill(rows, Desk.LIMP, 400);
        Desk.loseTracks(rows);
        rows.wish(1, 300);
        rows.step(5, 5, 400);
        Due.is("WANTED", rows.value(1), 0);
    }

    // "THE VALUE of LIMP at (PEDAL, SPEED) in 2; that of PEDAL there in 0"

    static void promise3_wantedIsOfTheLimpTableInMode2Alone() {
        TorqueRows rows = Desk.flat(Desk.PEDAL, 333);
        Desk.fill(rows, Desk.LIMP, 77);
        rows.step(5, 5, 1000);
        Due.is("WANTED in 0", rows.value(1), 333);
        rows.limp(true);
        rows.step(5, 5, 1000);
        Due.is("WANTED in 2", rows.value(1), 77);
        rows.step(5, 56, 1000);
        Due.is("WANTED in 2 is not halved", rows.value(1), 77);
    }

    // "half of that, towards smaller ones, in 1"

    static void promise3_halfOf0Of1AndOf2() {
        Due.is("half of 0", mode1(0).value(1), 0);
        Due.is("half of 1", mode1(1).value(1), 0);
        Due.is("half of 2", mode1(2).value(1), 1);
        Due.is("half of 3", mode1(3).value(1), 1);
    }

    static void promise3_halfOf999AndOf1000() {
        Due.is("half of 999", mode1(999).value(1), 499);
        Due.is("half of 1000", mode1(1000).value(1), 500);
    }

    static void promise3_wishesAreNotHalved() {
        TorqueRows rows = Desk.flat(Desk.PEDAL, 100);
        rows.wish(1, 301);
        rows.step(5, 56, 1000);
        Due.is("WANTED", rows.value(1), 301);
    }

    // "With PEDAL 0 in MODES 0 to 2"

    static void promise3_idleWithPedal0NotWith1() {
        TorqueRows rows = new TorqueRows();
        rows.step(0, 0, 400);
        Due.is("WANTED with PEDAL 0", rows.value(1), 100);
        Due.is("STORED with PEDAL 0", rows.value(4), 400);
        rows.step(1, 1, 400);
        Due.is("WANTED with PEDAL 1", rows.value(1), 0);
        Due.is("STORED with PEDAL 1", rows.value(4), 0);
    }

    static void promise3_idleInMode1() {
        TorqueRows rows = new TorqueRows();
        Due.is("MODE", rows.step(0, 51, 400), 1);
        Due.is("WANTED", rows.value(1), 100);
        Due.is("STORED", rows.value(4), 400);
    }

    static void promise3_idleInMode2() {
        TorqueRows rows = new TorqueRows();
        rows.limp(true);
        Due.is("MODE", rows.step(0, 0, 400), 2);
        Due.is("WANTED", rows.value(1), 100);
        Due.is("STORED", rows.value(4), 400);
    }

    static void promise3_noIdleInMode3() {
        TorqueRows rows = new TorqueRows();
        rows.step(0, 0, 400);
        Due.is("MODE", rows.step(0, 0, 0), 3);
        Due.is("WANTED", rows.value(1), 0);
        Due.is("STORED", rows.value(4), 0);
    }

    static void promise3_noIdleInMode4() {
        TorqueRows rows = new TorqueRows();
        rows.step(0, 0, 400);
        Desk.loseTracks(rows);
        Due.is("MODE", rows.step(0, 0, 400), 4);
        Due.is("WANTED", rows.value(1), 0);
        Due.is("STORED", rows.value(4), 0);
    }

    static void promise3_storedBeginsAt0AgainAfterAPedal() {
        TorqueRows rows = new TorqueRows();
        rows.step(0, 0, 400);
        rows.step(1, 1, 400);
        idle(rows, 400, 100, 400);
    }

    private static TorqueRows idleAt(long idle) {
        TorqueRows rows = new TorqueRows();
        rows.idle(idle);
        return rows;
    }

    private static void idle(TorqueRows rows, long speed, long wanted, long stored) {
        rows.step(0, 0, speed);
        Due.is("WANTED at SPEED " + speed, rows.value(1), wanted);
        Due.is("STORED at SPEED " + speed, rows.value(4), stored);
    }

    // "o is brought between 0 and 200; STORED is more by e, but if o was above 200 and e above 0 .. it stays"

    static void promise3_oOf199IsTakenAndStored() {
        idle(idleAt(3000), 2201, 199, 799);
    }

    static void promise3_oOf200IsTakenAndStored() {
        idle(idleAt(3000), 2200, 200, 800);
        // 4 e = 3212 is the last that still makes 200.
        idle(idleAt(3000), 2197, 200, 803);
    }

    static void promise3_oOf201Is200AndStoredStays() {
        idle(idleAt(3000), 2196, 200, 0);
    }

    static void promise3_oFarAbove200Is200AndStoredStays() {
        idle(idleAt(3000), 1, 200, 0);
    }

    static void promise3_oOf201FromWhatIsStoredStays() {
        TorqueRows rows = idleAt(3000);
        idle(rows, 2200, 200, 800);
        // (4 * 603 + 800) / 16 is 200, (4 * 604 + 1403) / 16 is 238.
        idle(rows, 2397, 200, 1403);
        idle(rows, 2396, 200, 1403);
    }

    static void promise3_fullestStoreThatCanBe() {
        TorqueRows rows = idleAt(801);
        for (int n = 0; n < 100 && rows.value(4) < 3212; n++) {
            long e = Math.min(800, (3215 - rows.value(4)) / 4);
            rows.step(0, 0, 801 - e);
        }
        Due.is("STORED", rows.value(4), 3212);
        idle(rows, 800, 200, 3212);
        idle(rows, 801, 200, 3212);
        idle(rows, 802, 200, 3211);
    }

    // "or o below 0 and e below 0, it stays"

    static void promise3_oOf1IsTakenAndStored() {
        TorqueRows rows = new TorqueRows();
        idle(rows, 760, 10, 40);
        // (4 * -6 + 40) / 16 = 1
        idle(rows, 806, 1, 34);
    }

    static void promise3_oOf0WithEBelow0IsStored() {
        TorqueRows rows = new TorqueRows();
        idle(rows, 796, 1, 4);
        idle(rows, 801, 0, 3);
    }

    static void promise3_oBelow0WithEBelow0Stays() {
        TorqueRows rows = new TorqueRows();
        idle(rows, 797, 0, 3);
        // (-4 + 3) / 16 is -1 towards smaller ones.
        idle(rows, 801, 0, 3);
        idle(rows, 10000, 0, 3);
    }

    static void promise3_oBelow0AtAnEmptyStoreStays() {
        idle(new TorqueRows(), 801, 0, 0);
        idle(new TorqueRows(), 804, 0, 0);
        idle(new TorqueRows(), 10000, 0, 0);
    }

    // "e = IDLE - SPEED and o = (4 e + STORED) / 16, towards smaller ones"

    static void promise3_eOf0KeepsTheStore() {
        TorqueRows rows = new TorqueRows();
        idle(rows, 800, 0, 0);
        idle(rows, 400, 100, 400);
        idle(rows, 800, 25, 400);
    }

    static void promise3_oGoesTowardsSmallerOnes() {
        idle(new TorqueRows(), 797, 0, 3);
        idle(new TorqueRows(), 796, 1, 4);
        idle(new TorqueRows(), 793, 1, 7);
        idle(new TorqueRows(), 792, 2, 8);
    }

    static void promise3_storedCountsInTheNextStepNotInItsOwn() {
        TorqueRows rows = new TorqueRows();
        idle(rows, 784, 4, 16);
        idle(rows, 784, 5, 32);
    }

    static void promise3_idleAtItsEnds() {
        idle(idleAt(0), 1, 0, 0);
        idle(idleAt(1), 1, 0, 0);
        idle(idleAt(3000), 3000, 0, 0);
        idle(idleAt(3000), 2999, 0, 1);
        idle(idleAt(3000), 10000, 0, 0);
    }

    // "WANTED becomes the greater of WANTED and o."

    static void promise3_wantedOneLessThanO() {
        idle(Desk.flat(Desk.PEDAL, 99), 400, 100, 400);
    }

    static void promise3_wantedJustO() {
        idle(Desk.flat(Desk.PEDAL, 100), 400, 100, 400);
    }

    static void promise3_wantedOneMoreThanO() {
        idle(Desk.flat(Desk.PEDAL, 101), 400, 101, 400);
    }

    static void promise3_idleComesAfterTheWishes() {
        TorqueRows rows = new TorqueRows();
        rows.wish(4, 0);
        idle(rows, 400, 100, 400);
    }

    // "WANTED is at most the BOUND."

    static void promise3_wantedAtTheBoundBelowAndAbove() {
        Due.is("299 under 300", bounded(299, 300), 299);
        Due.is("300 under 300", bounded(300, 300), 300);
        Due.is("301 under 300", bounded(301, 300), 300);
    }

    static void promise3_boundOf0WantsNothing() {
        Due.is("1 under 0", bounded(1, 0), 0);
        Due.is("1 under 1", bounded(1, 1), 1);
    }

    static void promise3_boundOf1000BindsNothing() {
        Due.is("1000 under 1000", bounded(1000, 1000), 1000);
        Due.is("1000 under 999", bounded(1000, 999), 999);
    }

    private static long bounded(long wanted, long bound) {
        TorqueRows rows = Desk.flat(Desk.PEDAL, wanted);
        rows.bound(bound);
        rows.step(5, 5, 1000);
        return rows.value(1);
    }

    static void promise3_boundComesAfterTheWishes() {
        TorqueRows rows = new TorqueRows();
        rows.bound(300);
        rows.wish(5, 1000);
        rows.step(5, 5, 1000);
        Due.is("WANTED", rows.value(1), 300);
    }

    static void promise3_boundComesAfterTheIdleThatIsStoredAllTheSame() {
        TorqueRows rows = new TorqueRows();
        rows.bound(99);
        idle(rows, 400, 99, 400);
        rows.bound(0);
        idle(rows, 400, 0, 800);
    }

    // "TORQUE (at first 0) is 0 in MODES 3 and 4"

    static void promise3_torqueIs0AtOnceInMode3() {
        TorqueRows rows = new TorqueRows();
        Desk.torqueTo(rows, 1000, 900);
        rows.step(5, 5, 0);
        Due.is("TORQUE", rows.torque(), 0);
    }

    static void promise3_torqueIs0AtOnceInMode4() {
        TorqueRows rows = new TorqueRows();
        Desk.torqueTo(rows, 1000, 900);
        Desk.loseTracks(rows);
        rows.step(5, 5, 900);
        Due.is("TORQUE", rows.torque(), 0);
    }

    // "otherwise it goes to WANTED, by at most 40 up and 80 down"

    static void promise3_upBy39By40AndBy41() {
        Due.is("0 to 39", ramped(0, 39), 39);
        Due.is("0 to 40", ramped(0, 40), 40);
        Due.is("0 to 41", ramped(0, 41), 40);
    }

    static void promise3_downBy79By80AndBy81() {
        Due.is("200 to 121", ramped(200, 121), 121);
        Due.is("200 to 120", ramped(200, 120), 120);
        Due.is("200 to 119", ramped(200, 119), 120);
    }

    static void promise3_torqueAtWantedStays() {
        Due.is("200 to 200", ramped(200, 200), 200);
        Due.is("200 to 201", ramped(200, 201), 201);
        Due.is("200 to 199", ramped(200, 199), 199);
    }

    static void promise3_rampAtTheGreatestTorque() {
        Due.is("960 to 1000", ramped(960, 1000), 1000);
        Due.is("959 to 1000", ramped(959, 1000), 999);
        Due.is("961 to 1000", ramped(961, 1000), 1000);
        Due.is("1000 to 0", ramped(1000, 0), 920);
    }

    static void promise3_rampAtTorque0() {
        Due.is("79 to 0", ramped(79, 0), 0);
        Due.is("80 to 0", ramped(80, 0), 0);
        Due.is("81 to 0", ramped(81, 0), 1);
        Due.is("0 to 0", ramped(0, 0), 0);
    }

    static void promise3_aLowerBoundIsReachedByTheRamp() {
        TorqueRows rows = new TorqueRows();
        Desk.torqueTo(rows, 200, 900);
        rows.bound(0);
        rows.wish(5, 200);
        rows.step(1, 1, 900);
        Due.is("WANTED", rows.value(1), 0);
        Due.is("TORQUE", rows.torque(), 120);
    }

    private static long ramped(long from, long to) {
        TorqueRows rows = new TorqueRows();
        Desk.torqueTo(rows, from, 900);
        rows.wish(5, to);
        rows.step(1, 1, 900);
        return rows.torque();
    }

    // "AIR is THE VALUE of AIR at (TORQUE, SPEED)"

    static void promise3_airIsThatOfTheTorqueNotOfWanted() {
        TorqueRows rows = new TorqueRows();
        rows.table(Desk.AIR, 1, 1, 128);
        rows.wish(5, 128);
        rows.step(1, 1, 1000);
        Due.is("AIR", rows.value(2), 40);
    }

    static void promise3_airInModes3And4IsThatAtTorque0() {
        TorqueRows rows = Desk.flat(Desk.AIR, 500);
        rows.table(Desk.AIR, 0, 0, 30);
        rows.table(Desk.AIR, 0, 1, 31);
        Desk.torqueTo(rows, 200, 1000);
        rows.step(5, 5, 0);
        Due.is("AIR in 3", rows.value(2), 30);
        Desk.torqueTo(rows, 200, 1000);
        Desk.loseTracks(rows);
        rows.step(5, 5, 1000);
        Due.is("AIR in 4", rows.value(2), 31);
    }

    // "FUEL is 0 if PEDAL and TORQUE are 0 and the SPEED is above 1500"

    static void promise3_fuelAtSpeed1499() {
        Due.is("FUEL", coasting(0, 0, 1499), 50);
    }

    static void promise3_fuelAtSpeed1500() {
        Due.is("FUEL", coasting(0, 0, 1500), 50);
    }

    static void promise3_noFuelAtSpeed1501() {
        Due.is("FUEL", coasting(0, 0, 1501), 0);
        Due.is("FUEL at 10000", coasting(0, 0, 10000), 0);
    }

    static void promise3_fuelAtSpeed1501WithPedal1() {
        Due.is("FUEL", coasting(1, 0, 1501), 50);
    }

    static void promise3_fuelAtSpeed1501WithTorque1() {
        Due.is("FUEL", coasting(0, 1, 1501), 50);
    }

    static void promise3_noFuelOnceTheTorqueHasFallenTo0() {
        TorqueRows rows = Desk.flat(Desk.FUEL, 50);
        Desk.torqueTo(rows, 81, 1501);
        rows.step(0, 0, 1501);
        Due.is("FUEL at TORQUE 1", rows.value(3), 50);
        rows.step(0, 0, 1501);
        Due.is("FUEL at TORQUE 0", rows.value(3), 0);
    }

    private static long coasting(long pedal, long torque, long speed) {
        TorqueRows rows = Desk.flat(Desk.FUEL, 50);
        rows.wish(5, torque);
        rows.step(pedal, pedal, speed);
        Due.is("TORQUE", rows.torque(), torque);
        return rows.value(3);
    }

    // "or in MODES 3 and 4"

    static void promise3_noFuelInMode3() {
        TorqueRows rows = Desk.flat(Desk.FUEL, 50);
        rows.step(600, 600, 0);
        Due.is("FUEL", rows.value(3), 0);
    }

    static void promise3_noFuelInMode4() {
        TorqueRows rows = Desk.flat(Desk.FUEL, 50);
        Desk.loseTracks(rows);
        rows.step(600, 600, 900);
        Due.is("FUEL", rows.value(3), 0);
        Due.is("FUEL when STOPPED", stoppedFuel(), 0);
    }

    private static long stoppedFuel() {
        TorqueRows rows = Desk.flat(Desk.FUEL, 50);
        Desk.monitors(rows, 8, 5000);
        rows.step(600, 600, 900);
        return rows.value(3);
    }

    static void promise3_fuelInModes1And2() {
        TorqueRows rows = Desk.flat(Desk.FUEL, 50);
        rows.step(0, 51, 1500);
        Due.is("FUEL in 1", rows.value(3), 50);
        rows.limp(true);
        rows.step(0, 0, 1500);
        Due.is("FUEL in 2", rows.value(3), 50);
        rows.step(0, 0, 1501);
        Due.is("FUEL in 2 above 1500", rows.value(3), 0);
    }

    // "otherwise THE VALUE of FUEL at (AIR, SPEED)"

    static void promise3_fuelIsThatOfTheAirNotOfTheTorque() {
        TorqueRows rows = Desk.flat(Desk.AIR, 256);
        rows.table(Desk.FUEL, 2, 1, 70);
        rows.step(1, 1, 1000);
        Due.is("FUEL", rows.value(3), 70);
    }
}
