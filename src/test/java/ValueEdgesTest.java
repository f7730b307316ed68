/** The edges of promises 4 (torque), 5 (value) and 13 (sum). */
public final class ValueEdgesTest {
    public static void main(String[] args) throws Exception {
        Cases.run(ValueEdgesTest.class);
    }

    // "torque(): TORQUE."

    static void promise4_torqueAtItsLowerEnd() {
        TorqueRows rows = new TorqueRows();
        Desk.torqueTo(rows, 1, 900);
        Due.is("torque() at 1", rows.torque(), 1);
        rows.step(1, 1, 900);
        Due.is("torque() at 0", rows.torque(), 0);
        rows.step(1, 1, 900);
        Due.is("torque() never below", rows.torque(), 0);
    }

    static void promise4_torqueAtItsUpperEnd() {
        TorqueRows rows = new TorqueRows();
        Desk.torqueTo(rows, 999, 900);
        rows.wish(5, 1000);
        rows.step(1, 1, 900);
        Due.is("torque() at 1000", rows.torque(), 1000);
        rows.wish(5, 1000);
        rows.step(1, 1, 900);
        Due.is("torque() never above", rows.torque(), 1000);
    }

    static void promise4_changesNothing() {
        Twins.changesNothing(TorqueRows::torque);
    }

    // "Of the last STEP: what = 0 PEDAL .. 7 SPEED"; "-2 another what."

    static void promise5_everyWhatIsItsOwn() {
        TorqueRows rows = Desk.flat(Desk.PEDAL, 610);
        Desk.fill(rows, Desk.AIR, 20);
        Desk.fill(rows, Desk.FUEL, 30);
        values(rows, 90, 900, 2500, 90, 305, 20, 30, 0, 1, 1, 2500);
        values(rows, 0, 0, 700, 0, 610, 20, 30, 100, 0, 0, 700);
    }

    private static void values(TorqueRows rows, long pedal, long other, long speed, long... due) {
        rows.step(pedal, other, speed);
        for (int what = 0; what < due.length; what++) {
            Due.is("value(" + what + ")", rows.value(what), due[what]);
        }
    }

    static void promise5_whatBelow0IsRefused() {
        Twins.refuse("value(-1)", -2, rows -> rows.value(-1));
        Twins.refuse("the least what", -2, rows -> rows.value(Integer.MIN_VALUE));
    }

    static void promise5_whatAbove7IsRefused() {
        Twins.refuse("value(8)", -2, rows -> rows.value(8));
        Twins.refuse("the greatest what", -2, rows -> rows.value(Integer.MAX_VALUE));
    }

    static void promise5_what0AndWhat7AreTaken() {
        TorqueRows rows = new TorqueRows();
        rows.step(11, 12, 13);
        Due.is("value(0)", rows.value(0), 11);
        Due.is("value(7)", rows.value(7), 13);
    }

    static void promise5_changesNothing() {
        for (int n = 0; n <= 7; n++) {
            int what = n;
            Twins.changesNothing(rows -> rows.value(what));
        }
    }

    static void promise5_staysUntilTheNextStep() {
        TorqueRows rows = Desk.flat(Desk.PEDAL, 610);
        rows.step(90, 90, 2500);
        Desk.fill(rows, Desk.PEDAL, 0);
        rows.sensor(2, 1);
        rows.bound(5);
        rows.limp(true);
        Due.is("WANTED", rows.value(1), 610);
        Due.is("MODE", rows.value(6), 0);
        Due.is("SPEED", rows.value(7), 2500);
    }

    static void promise5_valuesInMode4() {
        TorqueRows rows = new TorqueRows();
        Desk.loseTracks(rows);
        values(rows, 90, 900, 2500, 0, 0, 0, 0, 0, 0, 4, 2500);
    }

    // "what = 0 how many"

    static void promise13_sum0CountsStepsOfEveryModeAndNoRefusedOne() {
        TorqueRows rows = new TorqueRows();
        rows.step(5, 5, 900);
        Due.is("one", rows.sum(0), 1);
        rows.step(5, 5, 0);
        Due.is("two, in MODE 3", rows.sum(0), 2);
        rows.step(5, 5, 10001);
        Due.is("a refused one", rows.sum(0), 2);
        Desk.loseTracks(rows);
        rows.step(5, 5, 900);
        Due.is("three, in MODE 4", rows.sum(0), 3);
    }

    // "1 the sum of TORQUE times SPEED"

    static void promise13_sum1IsOfTheTorqueNotOfWanted() {
        TorqueRows rows = new TorqueRows();
        rows.wish(5, 41);
        rows.step(5, 5, 1000);
        Due.is("40 times 1000", rows.sum(1), 40000);
        rows.wish(5, 41);
        rows.step(5, 5, 1);
        Due.is("and 41 times 1", rows.sum(1), 40041);
    }

    static void promise13_sum1IsOfTheSpeedThatIsTakenForALostOne() {
        TorqueRows rows = new TorqueRows();
        rows.step(5, 5, 1000);
        rows.sensor(2, 1);
        rows.wish(5, 40);
        rows.step(5, 5, 9);
        Due.is("40 times 1000", rows.sum(1), 40000);
    }

    static void promise13_sum1GrowsBeyondAnInt() {
        TorqueRows rows = new TorqueRows();
        rows.table(Desk.PEDAL, 7, 7, 1000);
        Desk.steps(rows, 226, 1000, 1000, 10000);
        // 25 STEPS up, 13000 in all, and then 1000 a STEP.
        Due.is("under 2^31", rows.sum(1), 2140000000L);
        rows.step(1000, 1000, 10000);
        Due.is("above 2^31", rows.sum(1), 2150000000L);
        Desk.steps(rows, 281, 1000, 1000, 10000);
        Due.is("above 2^32", rows.sum(1), 4960000000L);
    }

    // "2 the sum of FUEL"

    static void promise13_sum2CountsNoFuelThatIsCut() {
        TorqueRows rows = Desk.flat(Desk.FUEL, 11);
        rows.step(0, 0, 1500);
        Due.is("at 1500", rows.sum(2), 11);
        rows.step(0, 0, 1501);
        Due.is("at 1501", rows.sum(2), 11);
        rows.step(5, 5, 0);
        Due.is("at 0", rows.sum(2), 11);
        rows.step(5, 5, 1);
        Due.is("at 1", rows.sum(2), 22);
    }

    static void promise13_sum2OfTheGreatestFuel() {
        TorqueRows rows = Desk.flat(Desk.FUEL, 1000);
        Desk.steps(rows, 400, 5, 5, 900);
        Due.is("400 times 1000", rows.sum(2), 400000);
    }

    // "3 how many were in MODE 4"

    static void promise13_sum3CountsMode4AloneOfBothCauses() {
        TorqueRows rows = new TorqueRows();
        rows.step(5, 5, 0);
        Due.is("MODE 3", rows.sum(3), 0);
        Desk.loseTracks(rows);
        rows.step(5, 5, 900);
        Due.is("both tracks LOST", rows.sum(3), 1);
        rows.sensor(0, 0);
        rows.step(5, 5, 900);
        Due.is("MODE 2", rows.sum(3), 1);
        Desk.monitors(rows, 8, 5000);
        Due.is("STOPPED, but no STEP yet", rows.sum(3), 1);
        rows.step(5, 5, 900);
        Due.is("STOPPED", rows.sum(3), 2);
    }

    static void promise13_sum3CountsTheVeryStepThatStops() {
        TorqueRows rows = new TorqueRows();
        Desk.steps(rows, 4, 0, 51, 900);
        Due.is("four DIFFERENT", rows.sum(3), 0);
        rows.step(0, 51, 900);
        Due.is("five DIFFERENT", rows.sum(3), 1);
    }

    static void promise13_sumsAreNotEndedByLimp() {
        TorqueRows rows = Desk.stoppedByTracks();
        rows.limp(false);
        Due.is("sum(0)", rows.sum(0), 5);
        Due.is("sum(3)", rows.sum(3), 1);
    }

    // "-2 another what."

    static void promise13_whatBelow0IsRefused() {
        Twins.refuse("sum(-1)", -2, rows -> rows.sum(-1));
        Twins.refuse("the least what", -2, rows -> rows.sum(Integer.MIN_VALUE));
    }

    static void promise13_whatAbove3IsRefused() {
        Twins.refuse("sum(4)", -2, rows -> rows.sum(4));
        Twins.refuse("the greatest what", -2, rows -> rows.sum(Integer.MAX_VALUE));
    }

    static void promise13_changesNothing() {
        for (int n = 0; n <= 3; n++) {
            int what = n;
            Twins.changesNothing(rows -> rows.sum(what));
        }
    }
}
