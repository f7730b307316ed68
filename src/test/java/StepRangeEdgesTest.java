/** The edges of promise 3 (step): the ranges of its numbers, and its refusals. */
public final class StepRangeEdgesTest {
    public static void main(String[] args) throws Exception {
        Cases.run(StepRangeEdgesTest.class);
    }

    // "A STEP has two tracks (0 .. 1000)"; "-2 a number is none."

    static void promise3_firstTrackAtItsLowerEnd() {
        firstTrackIsTaken(0);
        firstTrackIsTaken(1);
    }

    static void promise3_firstTrackAtItsUpperEnd() {
        firstTrackIsTaken(999);
        firstTrackIsTaken(1000);
    }

    private static void firstTrackIsTaken(long track) {
        TorqueRows rows = new TorqueRows();
        // With the other one lost the first track alone is the PEDAL.
        rows.sensor(1, 1);
        Due.is("step(" + track + ", 5, 900)", rows.step(track, 5, 900), 2);
        Due.is("PEDAL", rows.value(0), track);
    }

    static void promise3_firstTrackBelow0IsRefused() {
        Twins.refuse("track -1", -2, rows -> rows.step(-1, 5, 900));
        Twins.refuse("the least track", -2, rows -> rows.step(Long.MIN_VALUE, 5, 900));
    }

    static void promise3_firstTrackAbove1000IsRefused() {
        Twins.refuse("track 1001", -2, rows -> rows.step(1001, 960, 900));
        Twins.refuse("the greatest track", -2, rows -> rows.step(Long.MAX_VALUE, 960, 900));
    }

    static void promise3_firstTrackThatWrapsRoundIsRefused() {
        Twins.refuse("track 2^32 + 5", -2, rows -> rows.step(Desk.WRAP + 5, 5, 900));
        Twins.refuse("track 5 - 2^32", -2, rows -> rows.step(5 - Desk.WRAP, 5, 900));
    }

    static void promise3_secondTrackAtItsLowerEnd() {
        secondTrackIsTaken(0);
        secondTrackIsTaken(1);
    }

    static void promise3_secondTrackAtItsUpperEnd() {
        secondTrackIsTaken(999);
        secondTrackIsTaken(1000);
    }

    private static void secondTrackIsTaken(long track) {
        TorqueRows rows = new TorqueRows();
        rows.sensor(0, 1);
        Due.is("step(5, " + track + ", 900)", rows.step(5, track, 900), 2);
        Due.is("PEDAL", rows.value(0), track);
    }

    static void promise3_secondTrackBelow0IsRefused() {
        Twins.refuse("other -1", -2, rows -> rows.step(5, -1, 900));
        Twins.refuse("the least other", -2, rows -> rows.step(5, Long.MIN_VALUE, 900));
    }

    static void promise3_secondTrackAbove1000IsRefused() {
        Twins.refuse("other 1001", -2, rows -> rows.step(960, 1001, 900));
        Twins.refuse("the greatest other", -2, rows -> rows.step(960, Long.MAX_VALUE, 900));
    }

    static void promise3_secondTrackThatWrapsRoundIsRefused() {
        Twins.refuse("other 2^32 + 5", -2, rows -> rows.step(5, Desk.WRAP + 5, 900));
        Twins.refuse("other 5 - 2^32", -2, rows -> rows.step(5, 5 - Desk.WRAP, 900));
    }

    // "and a speed (0 .. 10000)"

    static void promise3_speedAtItsLowerEnd() {
        speedIsTaken(0, 3);
        speedIsTaken(1, 0);
    }

    static void promise3_speedAtItsUpperEnd() {
        speedIsTaken(9999, 0);
        speedIsTaken(10000, 0);
    }

    private static void speedIsTaken(long speed, long mode) {
        TorqueRows rows = new TorqueRows();
        Due.is("step(5, 5, " + speed + ")", rows.step(5, 5, speed), mode);
        Due.is("SPEED", rows.value(7), speed);
    }

    static void promise3_speedBelow0IsRefused() {
        Twins.refuse("speed -1", -2, rows -> rows.step(5, 5, -1));
        Twins.refuse("the least speed", -2, rows -> rows.step(5, 5, Long.MIN_VALUE));
    }

    static void promise3_speedAbove10000IsRefused() {
        Twins.refuse("speed 10001", -2, rows -> rows.step(5, 5, 10001));
        Twins.refuse("the greatest speed", -2, rows -> rows.step(5, 5, Long.MAX_VALUE));
    }

    static void promise3_speedThatWrapsRoundIsRefused() {
        Twins.refuse("speed 2^32 + 900", -2, rows -> rows.step(5, 5, Desk.WRAP + 900));
        Twins.refuse("speed 900 - 2^32", -2, rows -> rows.step(5, 5, 900 - Desk.WRAP));
    }

    static void promise3_severalNumbersThatAreNoneAreRefusedOnce() {
        Twins.refuse("all too small", -2, rows -> rows.step(-1, -1, -1));
        Twins.refuse("all too large", -2, rows -> rows.step(1001, 1001, 10001));
    }

    static void promise3_aNumberOfALostSensorMustBeOneToo() {
        lostStillRefuses(0, 1001, 5, 900);
        lostStillRefuses(0, -1, 5, 900);
        lostStillRefuses(1, 5, 1001, 900);
        lostStillRefuses(1, 5, -1, 900);
        lostStillRefuses(2, 5, 5, 10001);
        lostStillRefuses(2, 5, 5, -1);
    }

    private static void lostStillRefuses(int which, long pedal, long other, long speed) {
        TorqueRows rows = new TorqueRows();
        rows.sensor(which, 1);
        Due.is("sensor " + which + " lost", rows.step(pedal, other, speed), -2);
        Due.is("no STEP was done", rows.sum(0), 0);
    }

    // "REFUSALS change nothing": the parts of the state that only a STEP changes, one by one.

    static void promise3_refusedStepLeavesTheWishesWaiting() {
        TorqueRows rows = new TorqueRows();
        rows.wish(1, 70);
        rows.step(5, 5, 10001);
        Due.is("how many wait", rows.wish(1, 80), 2);
        rows.step(5, 5, 900);
        Due.is("WANTED", rows.value(1), 70);
    }

    static void promise3_refusedStepDoesNotCountAsDifferent() {
        TorqueRows rows = new TorqueRows();
        Desk.steps(rows, 4, 0, 51, 900);
        rows.step(0, 1001, 900);
        Due.is("DIFFERENT", rows.value(5), 4);
        Due.is("the desk is not STOPPED", rows.monitor(0), 0);
    }

    static void promise3_refusedStepDoesNotEndTheRowOfDifferentOnes() {
        TorqueRows rows = new TorqueRows();
        Desk.steps(rows, 4, 0, 51, 900);
        rows.step(0, 0, -1);
        Due.is("the fifth", rows.step(0, 51, 900), 4);
    }

    static void promise3_refusedStepIsNotTheStepBefore() {
        TorqueRows rows = new TorqueRows();
        rows.step(5, 5, 900);
        rows.step(-1, 5, 3000);
        rows.sensor(2, 1);
        rows.step(5, 5, 0);
        Due.is("SPEED", rows.value(7), 900);
    }

    static void promise3_refusedStepLeavesTheTorqueBefore() {
        TorqueRows rows = new TorqueRows();
        Desk.torqueTo(rows, 200, 900);
        rows.step(5, 5, 900);
        rows.step(5, 1001, 900);
        Due.is("TORQUE", rows.torque(), 120);
        Due.is("200 is what it was before", rows.monitor(200), 0);
        Due.is("201", rows.monitor(201), 1);
    }

    static void promise3_refusedStepLeavesWhatIsStored() {
        TorqueRows rows = new TorqueRows();
        rows.step(0, 0, 400);
        rows.step(5, 1001, 900);
        Due.is("STORED", rows.value(4), 400);
    }
}
