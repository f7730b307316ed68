/** The edges of promise 6 (wish), and of point 3 of a STEP, where the wishes count. */
public final class WishEdgesTest {
    public static void main(String[] args) throws Exception {
        Cases.run(WishEdgesTest.class);
    }

    // "A WISH: how many wait."

    static void promise6_theFirstAndTheSecondWish() {
        TorqueRows rows = new TorqueRows();
        Due.is("the first", rows.wish(3, 10), 1);
        Due.is("the second", rows.wish(3, 10), 2);
        Due.is("of another RANK", rows.wish(4, 10), 3);
    }

    // "-1 there is no such RANK": 1 .. 5.

    static void promise6_ranksAtTheEndsAreTaken() {
        int[] ends = {1, 2, 4, 5};
        for (int rank : ends) {
            Due.is("rank " + rank, new TorqueRows().wish(rank, 5), 1);
        }
    }

    static void promise6_rankBelow1IsRefused() {
        Twins.refuse("rank 0", -1, rows -> rows.wish(0, 5));
        Twins.refuse("rank -1", -1, rows -> rows.wish(-1, 5));
        Twins.refuse("the least rank", -1, rows -> rows.wish(Integer.MIN_VALUE, 5));
    }

    static void promise6_rankAbove5IsRefused() {
        Twins.refuse("rank 6", -1, rows -> rows.wish(6, 5));
        Twins.refuse("rank 7", -1, rows -> rows.wish(7, 5));
        Twins.refuse("the greatest rank", -1, rows -> rows.wish(Integer.MAX_VALUE, 5));
    }

    // "-2 v is none": 0 .. 1000.

    static void promise6_vAtItsLowerEndIsTaken() {
        Due.is("min with 0", wanted(300, 2, 0), 0);
        Due.is("min with 1", wanted(300, 2, 1), 1);
    }

    static void promise6_vAtItsUpperEndIsTaken() {
        Due.is("max with 999", wanted(300, 1, 999), 999);
        Due.is("max with 1000", wanted(300, 1, 1000), 1000);
    }

    static void promise6_vBelow0IsRefused() {
        for (int n = 1; n <= 5; n++) {
            int rank = n;
            Twins.refuse("v -1 of rank " + rank, -2, rows -> rows.wish(rank, -1));
        }
        Twins.refuse("the least v", -2, rows -> rows.wish(1, Long.MIN_VALUE));
    }

    static void promise6_vAbove1000IsRefused() {
        for (int n = 1; n <= 5; n++) {
            int rank = n;
            Twins.refuse("v 1001 of rank " + rank, -2, rows -> rows.wish(rank, 1001));
        }
        Twins.refuse("the greatest v", -2, rows -> rows.wish(5, Long.MAX_VALUE));
    }

    static void promise6_vThatWrapsRoundIsRefused() {
        Twins.refuse("v 2^32 + 5", -2, rows -> rows.wish(2, Desk.WRAP + 5));
        Twins.refuse("v 5 - 2^32", -2, rows -> rows.wish(2, 5 - Desk.WRAP));
    }

    static void promise6_aRefusedVDoesNotCountInTheStep() {
        for (int rank = 1; rank <= 5; rank++) {
            Due.is("-1 of rank " + rank, wanted(300, rank, -1), 300);
            Due.is("1001 of rank " + rank, wanted(300, rank, 1001), 300);
            Due.is("-1 beside one of rank " + rank, wanted(300, rank, 300, rank, -1), 300);
        }
    }

    // "-4 there are 16"

    static void promise6_the15thAndThe16thAreTaken() {
        TorqueRows rows = new TorqueRows();
        Desk.wishes(rows, 14, 1, 5);
        Due.is("the 15th", rows.wish(1, 5), 15);
        Due.is("the 16th", rows.wish(1, 5), 16);
    }

    static void promise6_the17thIsRefused() {
        for (int n = 1; n <= 5; n++) {
            int rank = n;
            Twins.refuseIn(Twins.State.FULL_OF_WISHES, "wish(" + rank + ", 0)", -4, rows -> rows.wish(rank, 0));
            Twins.refuseIn(Twins.State.FULL_OF_WISHES, "wish(" + rank + ", 1000)", -4, rows -> rows.wish(rank, 1000));
        }
    }

    static void promise6_sixteenOfAllRanksTogetherAreFull() {
        TorqueRows rows = new TorqueRows();
        for (int n = 1; n <= 16; n++) {
            Due.is("wish " + n, rows.wish(1 + n % 5, 5), n);
        }
        Due.is("the 17th", rows.wish(3, 5), -4);
        Due.is("the 18th", rows.wish(3, 5), -4);
    }

    static void promise6_the16thCountsAndThe17thDoesNot() {
        TorqueRows rows = new TorqueRows();
        Desk.wishes(rows, 15, 5, 700);
        rows.wish(5, 600);
        rows.wish(5, 500);
        rows.step(5, 5, 900);
        Due.is("WANTED", rows.value(1), 600);
    }

    static void promise6_the17thOfNoRankCounts() {
        for (int rank = 1; rank <= 5; rank++) {
            long[] torques = {0, 1000};
            for (long v : torques) {
                TorqueRows rows = Desk.flat(Desk.PEDAL, 300);
                Desk.wishes(rows, 16, 2, 300);
                Due.is("wish(" + rank + ", " + v + ")", rows.wish(rank, v), -4);
                rows.step(5, 5, 900);
                Due.is("WANTED", rows.value(1), 300);
            }
        }
    }

    static void promise6_afterAStep16FindRoomAgain() {
        TorqueRows rows = new TorqueRows();
        Desk.wishes(rows, 16, 1, 5);
        rows.step(5, 5, 900);
        Desk.wishes(rows, 15, 1, 5);
        Due.is("the 16th", rows.wish(1, 5), 16);
        Due.is("the 17th", rows.wish(1, 5), -4);
    }

    // "REFUSALS .. answer, the first that fits"

    static void promise6_noSuchRankComesBeforeNoneV() {
        Twins.refuse("rank 0 and v -1", -1, rows -> rows.wish(0, -1));
        Twins.refuse("rank 6 and v 1001", -1, rows -> rows.wish(6, 1001));
    }

    static void promise6_noSuchRankComesBeforeNoRoom() {
        Twins.refuseIn(Twins.State.FULL_OF_WISHES, "rank 0", -1, rows -> rows.wish(0, 5));
        Twins.refuseIn(Twins.State.FULL_OF_WISHES, "rank 6", -1, rows -> rows.wish(6, 5));
    }

    static void promise6_noneVComesBeforeNoRoom() {
        Twins.refuseIn(Twins.State.FULL_OF_WISHES, "v -1", -2, rows -> rows.wish(1, -1));
        Twins.refuseIn(Twins.State.FULL_OF_WISHES, "v 1001", -2, rows -> rows.wish(5, 1001));
    }

    // "with RANKS 1, 3, 5 WANTED becomes the greater of WANTED and that torque"

    static void promise6_rank1Rank3AndRank5TakeTheGreater() {
        for (int rank = 1; rank <= 5; rank += 2) {
            Due.is("299 of rank " + rank, wanted(300, rank, 299), 300);
            Due.is("300 of rank " + rank, wanted(300, rank, 300), 300);
            Due.is("301 of rank " + rank, wanted(300, rank, 301), 301);
        }
    }

    // "with 2 and 4 the lesser"

    static void promise6_rank2AndRank4TakeTheLesser() {
        for (int rank = 2; rank <= 4; rank += 2) {
            Due.is("299 of rank " + rank, wanted(300, rank, 299), 299);
            Due.is("300 of rank " + rank, wanted(300, rank, 300), 300);
            Due.is("301 of rank " + rank, wanted(300, rank, 301), 300);
        }
    }

    // "the WISHES, by RANKS, the least first"

    static void promise6_eachRankComesAfterTheOneBelowIt() {
        Due.is("1 then 2", wanted(300, 2, 100, 1, 700), 100);
        Due.is("2 then 3", wanted(300, 3, 700, 2, 100), 700);
        Due.is("3 then 4", wanted(300, 4, 100, 3, 700), 100);
        Due.is("4 then 5", wanted(300, 5, 700, 4, 100), 700);
    }

    static void promise6_ranksThatAreNotNeighbours() {
        Due.is("1 then 4", wanted(300, 4, 100, 1, 700), 100);
        Due.is("2 then 5", wanted(300, 5, 700, 2, 100), 700);
    }

    static void promise6_allFiveRanksInARow() {
        Due.is("upwards", wanted(300, 1, 900, 2, 50, 3, 400, 4, 250, 5, 10), 250);
        Due.is("downwards", wanted(300, 5, 310, 4, 10, 3, 500, 2, 20, 1, 600), 310);
    }

    // "of one RANK the least torque counts alone"

    static void promise6_theLeastOfARankCountsWhereverItStands() {
        for (int rank = 1; rank <= 5; rank++) {
            long due = rank % 2 == 1 ? 400 : 300;
            Due.is("first of rank " + rank, wanted(300, rank, 400, rank, 500, rank, 900), due);
            Due.is("midst of rank " + rank, wanted(300, rank, 500, rank, 400, rank, 900), due);
            Due.is("last of rank " + rank, wanted(300, rank, 900, rank, 500, rank, 400), due);
        }
    }

    static void promise6_theLeastOfAnOddRankMayCountForNothing() {
        for (int rank = 1; rank <= 5; rank += 2) {
            Due.is("1000 and 0 of rank " + rank, wanted(300, rank, 1000, rank, 0), 300);
        }
    }

    static void promise6_theLeastOfAnEvenRankIs0() {
        for (int rank = 2; rank <= 4; rank += 2) {
            Due.is("1000 and 0 of rank " + rank, wanted(300, rank, 1000, rank, 0), 0);
        }
    }

    private static long wanted(long pedal, int... ranksAndTorques) {
        TorqueRows rows = Desk.flat(Desk.PEDAL, pedal);
        for (int n = 0; n < ranksAndTorques.length; n += 2) {
            rows.wish(ranksAndTorques[n], ranksAndTorques[n + 1]);
        }
        rows.step(100, 100, 1000);
        return rows.value(1);
    }

    // "(but not in 3 and 4)"; "No WISH waits then (in any MODE)."

    static void promise6_noWishWaitsAfterMode0() {
        gone(new TorqueRows(), 5, 5, 900, 0, 700);
    }

    static void promise6_noWishWaitsAfterMode1() {
        gone(new TorqueRows(), 5, 56, 900, 1, 700);
    }

    static void promise6_noWishWaitsAfterMode2() {
        TorqueRows rows = new TorqueRows();
        rows.limp(true);
        gone(rows, 5, 5, 900, 2, 700);
    }

    static void promise6_noWishCountsInMode3AndNoneWaitsThen() {
        gone(new TorqueRows(), 5, 5, 0, 3, 0);
    }

    static void promise6_noWishCountsInMode4AndNoneWaitsThen() {
        gone(Desk.stoppedByWatch(), 5, 5, 900, 4, 0);
        TorqueRows rows = new TorqueRows();
        Desk.loseTracks(rows);
        gone(rows, 5, 5, 900, 4, 0);
    }

    private static void gone(TorqueRows rows, long pedal, long other, long speed, long mode, long wanted) {
        Desk.wishes(rows, 16, 5, 700);
        Due.is("MODE", rows.step(pedal, other, speed), mode);
        Due.is("WANTED", rows.value(1), wanted);
        Due.is("how many wait", rows.wish(5, 30), 1);
        rows.sensor(0, 0);
        rows.sensor(1, 0);
        rows.limp(false);
        rows.step(5, 5, 900);
        Due.is("WANTED of the next STEP", rows.value(1), 30);
    }
}
