/** The edges of promises 8 (monitor) and 15 (limp): what stops the desk, and what starts it again. */
public final class WatchEdgesTest {
    public static void main(String[] args) throws Exception {
        Cases.run(WatchEdgesTest.class);
    }

    // "what is reported is TOO MUCH, if it is more than WANTED and 30 more .. (both 0 at first)"

    static void promise8_29And30And31AtFirst() {
        Due.is("monitor(29)", new TorqueRows().monitor(29), 0);
        Due.is("monitor(30)", new TorqueRows().monitor(30), 0);
        Due.is("monitor(31)", new TorqueRows().monitor(31), 1);
    }

    static void promise8_wantedAnd29And30And31More() {
        long[] due = {0, 0, 1};
        for (int n = 0; n < 3; n++) {
            TorqueRows rows = Desk.flat(Desk.PEDAL, 500);
            rows.step(5, 5, 900);
            Due.is("monitor(" + (529 + n) + ")", rows.monitor(529 + n), due[n]);
        }
    }

    static void promise8_isOfWantedNotOfTheTorque() {
        TorqueRows rows = Desk.flat(Desk.PEDAL, 500);
        rows.step(5, 5, 900);
        Due.is("TORQUE", rows.torque(), 40);
        Due.is("monitor(71)", rows.monitor(71), 0);
    }

    static void promise8_isOfWantedAsItIsBounded() {
        TorqueRows rows = Desk.flat(Desk.PEDAL, 500);
        rows.bound(10);
        rows.step(5, 5, 900);
        Due.is("monitor(40)", rows.monitor(40), 0);
        Due.is("monitor(41)", rows.monitor(41), 1);
    }

    static void promise8_wantedIs0AfterMode3() {
        TorqueRows rows = Desk.flat(Desk.PEDAL, 500);
        rows.step(5, 5, 900);
        rows.step(5, 5, 0);
        // The torque before was 40, more than 0 and 30.
        Due.is("monitor(40)", rows.monitor(40), 0);
        Due.is("monitor(41)", rows.monitor(41), 1);
        rows.step(5, 5, 0);
        Due.is("monitor(30) a STEP later", rows.monitor(30), 0);
        Due.is("monitor(31) a STEP later", rows.monitor(31), 1);
    }

    // "and more than what TORQUE was before the last STEP"

    static void promise8_torqueBeforeLessOneItselfAndOneMore() {
        long[] due = {0, 0, 1};
        for (int n = 0; n < 3; n++) {
            Due.is("monitor(" + (199 + n) + ")", fallenFrom200().monitor(199 + n), due[n]);
        }
    }

    static void promise8_torqueBeforeIsOfTheLastStepAlone() {
        TorqueRows rows = fallenFrom200();
        rows.step(1, 1, 900);
        Due.is("monitor(120)", rows.monitor(120), 0);
        Due.is("monitor(121)", rows.monitor(121), 1);
    }

    static void promise8_wantedAnd30JustTheTorqueBefore() {
        TorqueRows rows = new TorqueRows();
        Desk.torqueTo(rows, 200, 900);
        rows.wish(5, 170);
        rows.step(1, 1, 900);
        Due.is("monitor(200)", rows.monitor(200), 0);
        Due.is("monitor(201)", rows.monitor(201), 1);
    }

    private static TorqueRows fallenFrom200() {
        TorqueRows rows = new TorqueRows();
        Desk.torqueTo(rows, 200, 900);
        rows.step(1, 1, 900);
        Due.is("WANTED", rows.value(1), 0);
        return rows;
    }

    // Any long may be reported: no range is named.

    static void promise8_aNegativeReportIsNotTooMuch() {
        Due.is("monitor(-1)", new TorqueRows().monitor(-1), 0);
        Due.is("the least", new TorqueRows().monitor(Long.MIN_VALUE), 0);
    }

    static void promise8_aReportBeyondAnIntIsTooMuch() {
        Due.is("monitor(2^32)", new TorqueRows().monitor(Desk.WRAP), 1);
        Due.is("monitor(2^31)", new TorqueRows().monitor(1L << 31), 1);
        Due.is("the greatest", new TorqueRows().monitor(Long.MAX_VALUE), 1);
        Due.is("monitor(5000 - 2^32)", new TorqueRows().monitor(5000 - Desk.WRAP), 0);
    }

    // "how many times TOO MUCH one behind the other, with this one (0 if it is not ..)"

    static void promise8_oneThatIsNotBeginsTheCountAgain() {
        TorqueRows rows = new TorqueRows();
        Desk.monitors(rows, 6, 31);
        Due.is("the seventh", rows.monitor(31), 7);
        Due.is("one that is not", rows.monitor(30), 0);
        Due.is("the first again", rows.monitor(31), 1);
        Desk.monitors(rows, 5, 31);
        Due.is("the seventh again", rows.monitor(31), 7);
        Due.is("the desk is not STOPPED", rows.step(5, 5, 900), 0);
    }

    static void promise8_stepsBetweenDoNotEndTheRow() {
        TorqueRows rows = new TorqueRows();
        for (int n = 1; n <= 8; n++) {
            Due.is("monitor", rows.monitor(5000), n);
            rows.step(5, 5, n < 8 ? n % 2 : 900);
        }
        Due.is("MODE after the eighth", rows.value(6), 4);
    }

    static void promise8_aRefusedStepBetweenDoesNotEndTheRow() {
        TorqueRows rows = new TorqueRows();
        rows.monitor(31);
        rows.step(-1, 5, 900);
        Due.is("the second", rows.monitor(31), 2);
    }

    // "8 times TOO MUCH one behind the other STOP the desk."

    static void promise8_sevenTimesDoNotStop() {
        TorqueRows rows = new TorqueRows();
        Desk.monitors(rows, 7, 5000);
        Due.is("MODE", rows.step(5, 5, 900), 0);
        Due.is("limp(false)", rows.limp(false), 0);
    }

    static void promise8_theEighthAnswers8AndStops() {
        TorqueRows rows = new TorqueRows();
        Desk.monitors(rows, 7, 5000);
        Due.is("the eighth", rows.monitor(5000), 8);
        Due.is("MODE", rows.step(5, 5, 900), 4);
        Due.is("PEDAL", rows.value(0), 0);
    }

    static void promise8_theEighthLeavesTheLastStepAsItWas() {
        TorqueRows rows = Desk.flat(Desk.PEDAL, 500);
        rows.step(5, 5, 900);
        Desk.monitors(rows, 8, 5000);
        Due.is("MODE", rows.value(6), 0);
        Due.is("TORQUE", rows.torque(), 40);
    }

    // "-3 if the desk is STOPPED"

    static void promise8_theNinthIsRefused() {
        Twins.refuseIn(Twins.State.STOPPED_BY_WATCH, "monitor(5000)", -3, rows -> rows.monitor(5000));
    }

    static void promise8_oneThatIsNotTooMuchIsRefusedToo() {
        Twins.refuseIn(Twins.State.STOPPED_BY_WATCH, "monitor(0)", -3, rows -> rows.monitor(0));
        Twins.refuseIn(Twins.State.STOPPED_BY_WATCH, "the least", -3, rows -> rows.monitor(Long.MIN_VALUE));
    }

    static void promise8_isRefusedWhenTheTracksStoppedTheDesk() {
        Twins.refuseIn(Twins.State.STOPPED_BY_TRACKS, "monitor(5000)", -3, rows -> rows.monitor(5000));
        Twins.refuseIn(Twins.State.STOPPED_BY_TRACKS, "monitor(0)", -3, rows -> rows.monitor(0));
    }

    static void promise8_mode4ByLostTracksAloneIsNotStopped() {
        TorqueRows rows = new TorqueRows();
        Desk.loseTracks(rows);
        rows.step(5, 5, 900);
        Due.is("monitor(31)", rows.monitor(31), 1);
        Due.is("monitor(30)", rows.monitor(30), 0);
    }

    static void promise8_stoppedStaysThroughStepsAndSensors() {
        TorqueRows rows = Desk.stoppedByWatch();
        Desk.steps(rows, 20, 5, 5, 900);
        rows.sensor(0, 1);
        rows.sensor(0, 0);
        Due.is("MODE", rows.step(5, 5, 900), 4);
        Due.is("monitor(0)", rows.monitor(0), -3);
    }

    // "LIMP is on or off: 1, or 0 if it was so."

    static void promise15_onFromOffAndOnAgain() {
        TorqueRows rows = new TorqueRows();
        Due.is("limp(true)", rows.limp(true), 1);
        Due.is("limp(true) again", rows.limp(true), 0);
        Due.is("MODE", rows.step(5, 5, 900), 2);
    }

    static void promise15_offFromOnAndOffAgain() {
        TorqueRows rows = new TorqueRows();
        rows.limp(true);
        Due.is("limp(false)", rows.limp(false), 1);
        Due.is("limp(false) again", rows.limp(false), 0);
        Due.is("MODE", rows.step(5, 5, 900), 0);
    }

    static void promise15_onWhenItIsOnChangesNothing() {
        TorqueRows rows = new TorqueRows();
        rows.limp(true);
        Desk.steps(rows, 4, 0, 51, 900);
        Desk.monitors(rows, 7, 5000);
        Due.is("limp(true)", rows.limp(true), 0);
        Due.is("DIFFERENT", rows.value(5), 4);
        Due.is("TOO MUCH", rows.monitor(5000), 8);
    }

    static void promise15_onFromOffKeepsDifferentAndTooMuch() {
        TorqueRows rows = new TorqueRows();
        Desk.steps(rows, 4, 0, 51, 900);
        Desk.monitors(rows, 7, 5000);
        Due.is("limp(true)", rows.limp(true), 1);
        Due.is("the eighth", rows.monitor(5000), 8);
        rows.step(0, 51, 900);
        Due.is("DIFFERENT", rows.value(5), 5);
    }

    // "Off (also if it was off), the desk is STOPPED no more (1, if it was)"

    static void promise15_onDoesNotStartAStoppedDesk() {
        TorqueRows rows = Desk.stoppedByWatch();
        Due.is("limp(true)", rows.limp(true), 1);
        Due.is("limp(true) again", rows.limp(true), 0);
        Due.is("MODE", rows.step(5, 5, 900), 4);
    }

    static void promise15_offWhenItWasOffStartsADeskTheWatchStopped() {
        TorqueRows rows = Desk.stoppedByWatch();
        Due.is("limp(false)", rows.limp(false), 1);
        Due.is("limp(false) again", rows.limp(false), 0);
        Due.is("MODE", rows.step(5, 5, 900), 0);
        Due.is("monitor(0)", rows.monitor(0), 0);
    }

    static void promise15_offWhenItWasOffStartsADeskTheTracksStopped() {
        TorqueRows rows = Desk.stoppedByTracks();
        Due.is("limp(false)", rows.limp(false), 1);
        Due.is("limp(false) again", rows.limp(false), 0);
        Due.is("MODE", rows.step(5, 5, 900), 0);
    }

    static void promise15_offWhenItWasOnAndStoppedAnswers1() {
        TorqueRows rows = Desk.stoppedByTracks();
        rows.limp(true);
        Due.is("limp(false)", rows.limp(false), 1);
        Due.is("MODE", rows.step(5, 5, 900), 0);
    }

    static void promise15_offDoesNotFindLostTracks() {
        TorqueRows rows = new TorqueRows();
        Desk.loseTracks(rows);
        rows.step(5, 5, 900);
        Due.is("limp(false), nothing was STOPPED", rows.limp(false), 0);
        Due.is("MODE", rows.step(5, 5, 900), 4);
    }

    // "DIFFERENT and TOO MUCH begin at 0"

    static void promise15_differentBeginsAt0WhenItWasOff() {
        TorqueRows rows = new TorqueRows();
        Desk.steps(rows, 4, 0, 51, 900);
        Due.is("limp(false)", rows.limp(false), 0);
        Desk.steps(rows, 3, 0, 51, 900);
        Due.is("the fourth after it", rows.step(0, 51, 900), 1);
        Due.is("DIFFERENT", rows.value(5), 4);
        Due.is("the fifth after it", rows.step(0, 51, 900), 4);
    }

    static void promise15_differentBeginsAt0AfterAStop() {
        TorqueRows rows = Desk.stoppedByTracks();
        rows.limp(false);
        Due.is("the first after it", rows.step(0, 51, 900), 1);
        Due.is("DIFFERENT", rows.value(5), 1);
    }

    static void promise15_differentIs0AtOnce() {
        TorqueRows rows = new TorqueRows();
        Desk.steps(rows, 4, 0, 51, 900);
        rows.limp(false);
        Due.is("DIFFERENT", rows.value(5), 0);
    }

    static void promise15_tooMuchBeginsAt0WhenItWasOff() {
        TorqueRows rows = new TorqueRows();
        Desk.monitors(rows, 7, 5000);
        Due.is("limp(false)", rows.limp(false), 0);
        Desk.monitors(rows, 6, 5000);
        Due.is("the seventh after it", rows.monitor(5000), 7);
        Due.is("the eighth after it", rows.monitor(5000), 8);
        Due.is("the ninth after it", rows.monitor(5000), -3);
    }

    static void promise15_tooMuchBeginsAt0AfterAStop() {
        TorqueRows rows = Desk.stoppedByWatch();
        rows.monitor(5000);
        rows.limp(false);
        Due.is("the first after it", rows.monitor(5000), 1);
    }

    static void promise15_tooMuchBeginsAt0AfterTheTracksStopped() {
        TorqueRows rows = new TorqueRows();
        Desk.monitors(rows, 7, 5000);
        Desk.steps(rows, 5, 0, 51, 900);
        rows.limp(false);
        Due.is("the first after it", rows.monitor(5000), 1);
    }

    static void promise15_offLeavesTheWishesAndTheTorque() {
        TorqueRows rows = new TorqueRows();
        Desk.torqueTo(rows, 200, 900);
        rows.wish(5, 210);
        rows.limp(true);
        rows.limp(false);
        Due.is("TORQUE", rows.torque(), 200);
        rows.step(1, 1, 900);
        Due.is("TORQUE after the STEP", rows.torque(), 210);
    }
}
