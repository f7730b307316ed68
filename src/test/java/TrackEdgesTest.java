/** The edges of promise 3 (step), points 1 and 2: the speed, the tracks, and the mode. */
public final class TrackEdgesTest {
    public static void main(String[] args) throws Exception {
        Cases.run(TrackEdgesTest.class);
    }

    // "The SPEED is that one, or, if it is LOST, that of the STEP before (0 in the first)."

    static void promise3_lostSpeedIs0InTheFirstStep() {
        TorqueRows rows = new TorqueRows();
        rows.sensor(2, 1);
        Due.is("MODE", rows.step(5, 5, 4000), 3);
        Due.is("SPEED", rows.value(7), 0);
    }

    static void promise3_lostSpeedIsThatOfTheStepBefore() {
        TorqueRows rows = new TorqueRows();
        rows.step(5, 5, 4000);
        rows.sensor(2, 1);
        Due.is("MODE at 0", rows.step(5, 5, 0), 2);
        Due.is("SPEED", rows.value(7), 4000);
        rows.step(5, 5, 10000);
        Due.is("SPEED in the second such STEP", rows.value(7), 4000);
    }

    static void promise3_lostSpeedStays0AfterAStepAtSpeed0() {
        TorqueRows rows = new TorqueRows();
        rows.step(5, 5, 4000);
        rows.step(5, 5, 0);
        rows.sensor(2, 1);
        Due.is("MODE", rows.step(5, 5, 4000), 3);
    }

    static void promise3_lostSpeedIsTakenFromAStepInMode4Too() {
        TorqueRows rows = new TorqueRows();
        Desk.loseTracks(rows);
        rows.step(5, 5, 700);
        rows.sensor(2, 1);
        rows.step(5, 5, 800);
        Due.is("SPEED", rows.value(7), 700);
    }

    static void promise3_speedThatIsGoodAgainIsTaken() {
        TorqueRows rows = new TorqueRows();
        rows.step(5, 5, 4000);
        rows.sensor(2, 1);
        rows.step(5, 5, 100);
        rows.sensor(2, 0);
        Due.is("MODE", rows.step(5, 5, 100), 0);
        Due.is("SPEED", rows.value(7), 100);
    }

    // "A track that is LOST is taken to be the other one."

    static void promise3_firstTrackLostIsTheSecond() {
        TorqueRows rows = new TorqueRows();
        rows.sensor(0, 1);
        rows.step(0, 1000, 900);
        Due.is("PEDAL", rows.value(0), 1000);
        rows.step(1000, 0, 900);
        Due.is("PEDAL", rows.value(0), 0);
    }

    static void promise3_secondTrackLostIsTheFirst() {
        TorqueRows rows = new TorqueRows();
        rows.sensor(1, 1);
        rows.step(1000, 0, 900);
        Due.is("PEDAL", rows.value(0), 1000);
        rows.step(0, 1000, 900);
        Due.is("PEDAL", rows.value(0), 0);
    }

    static void promise3_bothTracksLostHaveNoPedal() {
        TorqueRows rows = new TorqueRows();
        Desk.loseTracks(rows);
        Due.is("MODE", rows.step(600, 600, 900), 4);
        Due.is("PEDAL", rows.value(0), 0);
    }

    // "If both are GOOD and more than 50 apart, DIFFERENT is one more, otherwise 0"

    static void promise3_49ApartIsNotDifferent() {
        apart(100, 149, 0);
        apart(149, 100, 0);
    }

    static void promise3_50ApartIsNotDifferent() {
        apart(100, 150, 0);
        apart(150, 100, 0);
        apart(0, 50, 0);
        apart(1000, 950, 0);
    }

    static void promise3_51ApartIsDifferent() {
        apart(100, 151, 1);
        apart(151, 100, 1);
        apart(0, 51, 1);
        apart(1000, 949, 1);
    }

    static void promise3_farthestApartIsDifferent() {
        apart(0, 1000, 1);
        apart(1000, 0, 1);
    }

    private static void apart(long pedal, long other, long different) {
        TorqueRows rows = new TorqueRows();
        Due.is("MODE of " + pedal + " and " + other, rows.step(pedal, other, 900), different);
        Due.is("DIFFERENT", rows.value(5), different);
    }

    static void promise3_lostTrackIsNeverDifferent() {
        for (int which = 0; which <= 1; which++) {
            TorqueRows rows = new TorqueRows();
            rows.step(0, 1000, 900);
            rows.sensor(which, 1);
            rows.step(0, 1000, 900);
            Due.is("DIFFERENT with track " + which + " lost", rows.value(5), 0);
        }
        TorqueRows both = new TorqueRows();
        both.step(0, 1000, 900);
        Desk.loseTracks(both);
        both.step(0, 1000, 900);
        Due.is("DIFFERENT with both lost", both.value(5), 0);
    }

    static void promise3_lostSpeedDoesNotEndDifferent() {
        TorqueRows rows = new TorqueRows();
        rows.step(0, 1000, 900);
        rows.sensor(2, 1);
        rows.step(0, 1000, 900);
        Due.is("DIFFERENT", rows.value(5), 2);
    }

    static void promise3_aStepAlikeBringsDifferentTo0() {
        TorqueRows rows = new TorqueRows();
        Desk.steps(rows, 4, 0, 51, 900);
        rows.step(0, 50, 900);
        Due.is("DIFFERENT", rows.value(5), 0);
        Due.is("MODE", rows.value(6), 0);
        Desk.steps(rows, 4, 0, 51, 900);
        Due.is("DIFFERENT after four more", rows.value(5), 4);
        Due.is("MODE after four more", rows.value(6), 1);
    }

    static void promise3_differentCountsInModes2And3() {
        TorqueRows rows = new TorqueRows();
        rows.limp(true);
        rows.step(0, 51, 900);
        Due.is("DIFFERENT in 2", rows.value(5), 1);
        rows.step(0, 51, 0);
        Due.is("DIFFERENT in 3", rows.value(5), 2);
    }

    // "if it is 5 then, the desk is STOPPED"

    static void promise3_fourDifferentDoNotStop() {
        TorqueRows rows = new TorqueRows();
        Desk.steps(rows, 3, 0, 51, 900);
        Due.is("MODE of the fourth", rows.step(0, 51, 900), 1);
        Due.is("DIFFERENT", rows.value(5), 4);
        Due.is("the desk is not STOPPED", rows.monitor(0), 0);
    }

    static void promise3_fiveDifferentStopInThatStep() {
        TorqueRows rows = new TorqueRows();
        Desk.steps(rows, 4, 60, 111, 900);
        Due.is("MODE of the fifth", rows.step(60, 111, 900), 4);
        Due.is("DIFFERENT", rows.value(5), 5);
        Due.is("PEDAL", rows.value(0), 0);
        Due.is("the desk is STOPPED", rows.monitor(0), -3);
    }

    static void promise3_sixDifferentStayStopped() {
        TorqueRows rows = Desk.stoppedByTracks();
        Due.is("MODE of the sixth", rows.step(0, 51, 900), 4);
        Due.is("DIFFERENT", rows.value(5), 6);
    }

    static void promise3_aStepAlikeDoesNotEndStopped() {
        TorqueRows rows = Desk.stoppedByTracks();
        Due.is("MODE", rows.step(5, 5, 900), 4);
        Due.is("DIFFERENT", rows.value(5), 0);
        Due.is("the desk is STOPPED", rows.monitor(0), -3);
    }

    static void promise3_fiveDifferentStopAtSpeed0AndInLimp() {
        TorqueRows standing = new TorqueRows();
        Desk.steps(standing, 4, 0, 51, 0);
        Due.is("MODE at SPEED 0", standing.step(0, 51, 0), 4);
        TorqueRows limping = new TorqueRows();
        limping.limp(true);
        Desk.steps(limping, 4, 0, 51, 900);
        Due.is("MODE with LIMP on", limping.step(0, 51, 900), 4);
    }

    // "The PEDAL is the lesser track."

    static void promise3_pedalIsTheLesserTrack() {
        TorqueRows rows = new TorqueRows();
        rows.step(20, 21, 900);
        Due.is("the first is less", rows.value(0), 20);
        rows.step(21, 20, 900);
        Due.is("the second is less", rows.value(0), 20);
        rows.step(20, 20, 900);
        Due.is("both alike", rows.value(0), 20);
        rows.step(1000, 300, 900);
        Due.is("far apart", rows.value(0), 300);
    }

    // "The MODE is 4 if the desk is STOPPED, or both tracks are LOST; in MODE 4 the PEDAL is 0."

    static void promise3_mode4WhenStoppedAloneWithNoPedal() {
        TorqueRows rows = Desk.stoppedByWatch();
        Due.is("MODE", rows.step(600, 600, 900), 4);
        Due.is("PEDAL", rows.value(0), 0);
    }

    static void promise3_mode4NeedsBothTracksLost() {
        TorqueRows rows = new TorqueRows();
        rows.sensor(0, 1);
        Due.is("the first alone", rows.step(5, 5, 900), 2);
        rows.sensor(1, 1);
        Due.is("both", rows.step(5, 5, 900), 4);
        rows.sensor(0, 0);
        Due.is("the second alone", rows.step(5, 5, 900), 2);
    }

    static void promise3_mode4ByLostTracksEndsWithThem() {
        TorqueRows rows = new TorqueRows();
        Desk.loseTracks(rows);
        Desk.steps(rows, 6, 5, 5, 900);
        rows.sensor(0, 0);
        rows.sensor(1, 0);
        Due.is("MODE", rows.step(5, 5, 900), 0);
    }

    static void promise3_mode4ComesBeforeMode3() {
        TorqueRows rows = Desk.stoppedByWatch();
        Due.is("STOPPED at SPEED 0", rows.step(5, 5, 0), 4);
        TorqueRows lost = new TorqueRows();
        Desk.loseTracks(lost);
        Due.is("both LOST at SPEED 0", lost.step(5, 5, 0), 4);
    }

    // "Otherwise the MODE is 3 if the SPEED is 0"

    static void promise3_mode3AtSpeed0NotAt1() {
        TorqueRows rows = new TorqueRows();
        Due.is("SPEED 0", rows.step(5, 5, 0), 3);
        Due.is("SPEED 1", rows.step(5, 5, 1), 0);
    }

    static void promise3_mode3KeepsThePedal() {
        TorqueRows rows = new TorqueRows();
        rows.step(600, 601, 0);
        Due.is("PEDAL", rows.value(0), 600);
    }

    static void promise3_mode3ComesBeforeModes2And1() {
        TorqueRows limping = new TorqueRows();
        limping.limp(true);
        Due.is("with LIMP on", limping.step(5, 5, 0), 3);
        TorqueRows lost = new TorqueRows();
        lost.sensor(0, 1);
        Due.is("with a track LOST", lost.step(5, 5, 0), 3);
        TorqueRows different = new TorqueRows();
        Due.is("with tracks apart", different.step(0, 51, 0), 3);
    }

    // "otherwise 2 if LIMP is on, or a sensor is LOST"

    static void promise3_mode2WithLimpOrAnyOneSensorLost() {
        TorqueRows limping = new TorqueRows();
        limping.limp(true);
        Due.is("LIMP", limping.step(5, 5, 1), 2);
        for (int which = 0; which <= 2; which++) {
            TorqueRows rows = new TorqueRows();
            rows.step(5, 5, 1);
            rows.sensor(which, 1);
            Due.is("sensor " + which + " LOST", rows.step(5, 5, 1), 2);
            rows.sensor(which, 0);
            Due.is("sensor " + which + " GOOD again", rows.step(5, 5, 1), 0);
        }
    }

    static void promise3_mode2ComesBeforeMode1() {
        TorqueRows limping = new TorqueRows();
        limping.limp(true);
        Due.is("LIMP and tracks apart", limping.step(0, 51, 1), 2);
        TorqueRows lost = new TorqueRows();
        lost.step(0, 0, 1);
        lost.sensor(2, 1);
        Due.is("the speed LOST and tracks apart", lost.step(0, 51, 1), 2);
    }

    // "otherwise 1 if DIFFERENT is above 0; otherwise 0"

    static void promise3_mode1WithDifferent1Mode0With0() {
        TorqueRows rows = new TorqueRows();
        Due.is("DIFFERENT 0", rows.step(0, 50, 1), 0);
        Due.is("DIFFERENT 1", rows.step(0, 51, 1), 1);
        Due.is("DIFFERENT 0 again", rows.step(0, 50, 1), 0);
    }
}
