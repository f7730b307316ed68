/** The edges of promises 7 (bound), 9 (sensor), 10 (cylinder), 11 (period) and 12 (idle). */
public final class SettingEdgesTest {
    public static void main(String[] args) throws Exception {
        Cases.run(SettingEdgesTest.class);
    }

    // "The BOUND: what it was. -2 v is not 0 .. 1000."

    static void promise7_boundAtItsLowerEndIsTaken() {
        TorqueRows rows = new TorqueRows();
        Due.is("bound(0)", rows.bound(0), 1000);
        Due.is("bound(1)", rows.bound(1), 0);
        Due.is("bound(500)", rows.bound(500), 1);
    }

    static void promise7_boundAtItsUpperEndIsTaken() {
        TorqueRows rows = new TorqueRows();
        Due.is("bound(999)", rows.bound(999), 1000);
        Due.is("bound(1000)", rows.bound(1000), 999);
        Due.is("bound(500)", rows.bound(500), 1000);
    }

    static void promise7_boundAsItWasAnswersItself() {
        TorqueRows rows = new TorqueRows();
        rows.bound(7);
        Due.is("bound(7)", rows.bound(7), 7);
    }

    static void promise7_boundBelow0IsRefused() {
        Twins.refuse("bound(-1)", -2, rows -> rows.bound(-1));
        Twins.refuse("the least bound", -2, rows -> rows.bound(Long.MIN_VALUE));
    }

    static void promise7_boundAbove1000IsRefused() {
        Twins.refuse("bound(1001)", -2, rows -> rows.bound(1001));
        Twins.refuse("the greatest bound", -2, rows -> rows.bound(Long.MAX_VALUE));
    }

    static void promise7_boundThatWrapsRoundIsRefused() {
        Twins.refuse("bound(2^32 + 5)", -2, rows -> rows.bound(Desk.WRAP + 5));
        Twins.refuse("bound(5 - 2^32)", -2, rows -> rows.bound(5 - Desk.WRAP));
    }

    static void promise7_boundCountsFromTheNextStepOn() {
        TorqueRows rows = Desk.flat(Desk.PEDAL, 500);
        rows.step(5, 5, 900);
        rows.bound(30);
        Due.is("WANTED of the last STEP", rows.value(1), 500);
        Due.is("TORQUE of the last STEP", rows.torque(), 40);
        rows.step(5, 5, 900);
        Due.is("WANTED of the next STEP", rows.value(1), 30);
    }

    // "A SENSOR is GOOD (kind = 0) or LOST (1) from now on: what it was."

    static void promise9_everySensorAnswersWhatItWas() {
        TorqueRows rows = new TorqueRows();
        for (int which = 0; which <= 2; which++) {
            Due.is("to LOST", rows.sensor(which, 1), 0);
            Due.is("to LOST again", rows.sensor(which, 1), 1);
            Due.is("to GOOD", rows.sensor(which, 0), 1);
            Due.is("to GOOD again", rows.sensor(which, 0), 0);
        }
    }

    static void promise9_everySensorIsItsOwn() {
        for (int lost = 0; lost <= 2; lost++) {
            TorqueRows rows = new TorqueRows();
            rows.sensor(lost, 1);
            for (int which = 0; which <= 2; which++) {
                Due.is("sensor " + which + " with " + lost + " lost", rows.sensor(which, 1), which == lost ? 1 : 0);
            }
        }
    }

    // "-1 there is no such sensor": 0 .. 2.

    static void promise9_sensorBelow0IsRefused() {
        Twins.refuse("sensor(-1, 0)", -1, rows -> rows.sensor(-1, 0));
        Twins.refuse("sensor(-1, 1)", -1, rows -> rows.sensor(-1, 1));
        Twins.refuse("the least sensor", -1, rows -> rows.sensor(Integer.MIN_VALUE, 1));
    }

    static void promise9_sensorAbove2IsRefused() {
        Twins.refuse("sensor(3, 0)", -1, rows -> rows.sensor(3, 0));
        Twins.refuse("sensor(3, 1)", -1, rows -> rows.sensor(3, 1));
        Twins.refuse("the greatest sensor", -1, rows -> rows.sensor(Integer.MAX_VALUE, 1));
    }

    // "-2 no such kind": 0, 1.

    static void promise9_kindBelow0IsRefused() {
        for (int n = 0; n <= 2; n++) {
            int which = n;
            Twins.refuse("sensor(" + which + ", -1)", -2, rows -> rows.sensor(which, -1));
        }
        Twins.refuse("the least kind", -2, rows -> rows.sensor(0, Integer.MIN_VALUE));
    }

    static void promise9_kindAbove1IsRefused() {
        for (int n = 0; n <= 2; n++) {
            int which = n;
            Twins.refuse("sensor(" + which + ", 2)", -2, rows -> rows.sensor(which, 2));
        }
        Twins.refuse("the greatest kind", -2, rows -> rows.sensor(0, Integer.MAX_VALUE));
    }

    static void promise9_refusedKindLeavesALostSensorLost() {
        TorqueRows rows = new TorqueRows();
        rows.sensor(1, 1);
        rows.sensor(1, 2);
        rows.sensor(1, -1);
        Due.is("sensor(1, 1)", rows.sensor(1, 1), 1);
    }

    static void promise9_noSuchSensorComesBeforeNoSuchKind() {
        Twins.refuse("sensor(3, 2)", -1, rows -> rows.sensor(3, 2));
        Twins.refuse("sensor(-1, -1)", -1, rows -> rows.sensor(-1, -1));
    }

    // "So many cylinders from now on: 1, or 0 if n is not 1 .. 12 (nothing changes)."

    static void promise10_cylindersAtTheirLowerEndAreTaken() {
        cylindersAreTaken(1, 120000000);
        cylindersAreTaken(2, 60000000);
    }

    static void promise10_cylindersAtTheirUpperEndAreTaken() {
        cylindersAreTaken(11, 10909090);
        cylindersAreTaken(12, 10000000);
    }

    private static void cylindersAreTaken(int n, long period) {
        TorqueRows rows = new TorqueRows();
        Due.is("cylinder(" + n + ")", rows.cylinder(n), 1);
        Due.is("period(1)", Desk.periodOrThrow(rows, 1), period);
    }

    static void promise10_noCylindersAreRefused() {
        Twins.refuse("cylinder(0)", 0, rows -> rows.cylinder(0));
    }

    static void promise10_cylindersBelow0AreRefused() {
        Twins.refuse("cylinder(-1)", 0, rows -> rows.cylinder(-1));
        Twins.refuse("the least n", 0, rows -> rows.cylinder(Integer.MIN_VALUE));
    }

    static void promise10_cylindersAbove12AreRefused() {
        Twins.refuse("cylinder(13)", 0, rows -> rows.cylinder(13));
        Twins.refuse("the greatest n", 0, rows -> rows.cylinder(Integer.MAX_VALUE));
    }

    // "120000000 divided by (speed times cylinders), towards 0. -2 the speed is not 0 .. 10000."

    static void promise11_speedAtItsLowerEndIsTaken() {
        TorqueRows rows = new TorqueRows();
        Due.is("period(1)", Desk.periodOrThrow(rows, 1), 30000000);
        Due.is("period(2)", Desk.periodOrThrow(rows, 2), 15000000);
    }

    static void promise11_speedAtItsUpperEndIsTaken() {
        TorqueRows rows = new TorqueRows();
        rows.cylinder(12);
        Due.is("period(9999)", Desk.periodOrThrow(rows, 9999), 1000);
        Due.is("period(10000)", Desk.periodOrThrow(rows, 10000), 1000);
        rows.cylinder(1);
        Due.is("period(9999) of one", Desk.periodOrThrow(rows, 9999), 12001);
        Due.is("period(10000) of one", Desk.periodOrThrow(rows, 10000), 12000);
    }

    static void promise11_goesTowards0() {
        TorqueRows rows = new TorqueRows();
        // 4285714.28, and with 11 cylinders 1093.86.
        Due.is("period(7)", Desk.periodOrThrow(rows, 7), 4285714);
        rows.cylinder(11);
        Due.is("period(9973)", Desk.periodOrThrow(rows, 9973), 1093);
    }

    static void promise11_speedBelow0IsRefused() {
        Twins.refuse("period(-1)", -2, rows -> Desk.periodOrThrow(rows, -1));
        Twins.refuse("the least speed", -2, rows -> Desk.periodOrThrow(rows, Long.MIN_VALUE));
    }

    static void promise11_speedAbove10000IsRefused() {
        Twins.refuse("period(10001)", -2, rows -> Desk.periodOrThrow(rows, 10001));
        Twins.refuse("the greatest speed", -2, rows -> Desk.periodOrThrow(rows, Long.MAX_VALUE));
    }

    static void promise11_speedThatWrapsRoundIsRefused() {
        // Times four cylinders these are 0 in a long, and 2^32 is 0 in an int: a refusal, not a throw.
        Twins.refuse("period(2^62)", -2, rows -> Desk.periodOrThrow(rows, 1L << 62));
        Twins.refuse("period(-2^62)", -2, rows -> Desk.periodOrThrow(rows, -(1L << 62)));
        Twins.refuse("period(2^32)", -2, rows -> Desk.periodOrThrow(rows, Desk.WRAP));
        Twins.refuse("period(2^32 + 5)", -2, rows -> Desk.periodOrThrow(rows, Desk.WRAP + 5));
    }

    // "ArithmeticException for speed 0."

    static void promise11_speed0ThrowsWithEveryNumberOfCylinders() {
        for (int n = 1; n <= 12; n++) {
            TorqueRows rows = new TorqueRows();
            rows.cylinder(n);
            Due.is("period(0) of " + n, Desk.periodOrThrow(rows, 0), Desk.THROWN);
        }
    }

    static void promise11_speed0ThrowsInEveryStateAndChangesNothing() {
        Twins.refuse("period(0)", Desk.THROWN, rows -> Desk.periodOrThrow(rows, 0));
    }

    static void promise11_changesNothing() {
        Twins.changesNothing(rows -> Desk.periodOrThrow(rows, 900));
    }

    static void promise11_isOfTheSpeedThatIsAskedNotOfTheStep() {
        TorqueRows rows = new TorqueRows();
        rows.step(5, 5, 3000);
        Due.is("period(1)", Desk.periodOrThrow(rows, 1), 30000000);
    }

    // "IDLE: what it was. -2 it is not 0 .. 3000."

    static void promise12_idleAtItsLowerEndIsTaken() {
        TorqueRows rows = new TorqueRows();
        Due.is("idle(0)", rows.idle(0), 800);
        Due.is("idle(1)", rows.idle(1), 0);
        Due.is("idle(500)", rows.idle(500), 1);
    }

    static void promise12_idleAtItsUpperEndIsTaken() {
        TorqueRows rows = new TorqueRows();
        Due.is("idle(2999)", rows.idle(2999), 800);
        Due.is("idle(3000)", rows.idle(3000), 2999);
        Due.is("idle(500)", rows.idle(500), 3000);
    }

    static void promise12_idleBelow0IsRefused() {
        Twins.refuse("idle(-1)", -2, rows -> rows.idle(-1));
        Twins.refuse("the least idle", -2, rows -> rows.idle(Long.MIN_VALUE));
    }

    static void promise12_idleAbove3000IsRefused() {
        Twins.refuse("idle(3001)", -2, rows -> rows.idle(3001));
        Twins.refuse("the greatest idle", -2, rows -> rows.idle(Long.MAX_VALUE));
    }

    static void promise12_idleThatWrapsRoundIsRefused() {
        Twins.refuse("idle(2^32 + 5)", -2, rows -> rows.idle(Desk.WRAP + 5));
        Twins.refuse("idle(5 - 2^32)", -2, rows -> rows.idle(5 - Desk.WRAP));
    }

    static void promise12_idleKeepsWhatIsStored() {
        TorqueRows rows = new TorqueRows();
        rows.step(0, 0, 400);
        rows.idle(1000);
        Due.is("STORED", rows.value(4), 400);
        rows.step(0, 0, 1000);
        Due.is("WANTED at the new IDLE", rows.value(1), 25);
    }
}
