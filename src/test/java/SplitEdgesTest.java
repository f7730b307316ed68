/** The edges of promise 14 (split). */
public final class SplitEdgesTest {
    public static void main(String[] args) throws Exception {
        Cases.run(SplitEdgesTest.class);
    }

    /** At SPEED 0: 1000 from 128 on, below that 1000 / 128 for one more. */
    private static TorqueRows dear() {
        TorqueRows rows = new TorqueRows();
        for (int x = 1; x < 8; x++) {
            rows.table(Desk.COST, x, 0, 1000);
        }
        return rows;
    }

    private static void shares(TorqueRows rows, long wish, long left, long motor, long cost) {
        Due.is("left of " + wish, rows.split(wish, 0), left);
        Due.is("motor of " + wish, rows.split(wish, 1), motor);
        Due.is("cost of " + wish, rows.split(wish, 2), cost);
    }

    // "the motor has m = 0, 50, 100, .. up to 400, not more than the torque"

    static void promise14_torque0HasNoMotor() {
        shares(dear(), 0, 0, 0, 0);
        TorqueRows rows = Desk.flat(Desk.COST, 1000);
        shares(rows, 0, 0, 0, 1000);
    }

    static void promise14_torque1HasNoMotor() {
        shares(dear(), 1, 1, 0, 7);
    }

    static void promise14_motorOf50From50On() {
        shares(dear(), 49, 49, 0, 382);
        shares(dear(), 50, 0, 50, 62);
        shares(dear(), 51, 1, 50, 69);
    }

    static void promise14_motorOf100From100On() {
        shares(dear(), 99, 49, 50, 444);
        shares(dear(), 100, 0, 100, 150);
        shares(dear(), 101, 1, 100, 157);
    }

    static void promise14_motorOf350From350On() {
        // At 349 the 300 costs 750 and the 49 left 382: more than the 1000 without a motor.
        shares(dear(), 349, 349, 0, 1000);
        shares(dear(), 350, 0, 350, 962);
        shares(dear(), 351, 1, 350, 969);
    }

    static void promise14_motorOf400NeverPays() {
        // It costs 1200, and what is left without a motor 1000 at most.
        shares(dear(), 399, 399, 0, 1000);
        shares(dear(), 400, 400, 0, 1000);
        shares(dear(), 401, 401, 0, 1000);
    }

    static void promise14_motorOf350IsTheGreatestThatPays() {
        TorqueRows rows = new TorqueRows();
        rows.table(Desk.COST, 3, 0, 1000);
        rows.table(Desk.COST, 4, 0, 1000);
        rows.table(Desk.COST, 5, 0, 1000);
        // 606 is left 256, which costs nothing, after 350.
        shares(rows, 606, 256, 350, 962);
    }

    // "m costs m + m m / 200 (towards smaller ones)"

    static void promise14_motorCostsGoTowardsSmallerOnes() {
        shares(dear(), 50, 0, 50, 62);
        shares(dear(), 100, 0, 100, 150);
        shares(dear(), 150, 0, 150, 262);
        shares(dear(), 200, 0, 200, 400);
        shares(dear(), 250, 0, 250, 562);
        shares(dear(), 300, 0, 300, 750);
        shares(dear(), 350, 0, 350, 962);
    }

    // "what is left THE VALUE of COST at (that, SPEED)"

    static void promise14_isAtSpeed0BeforeTheFirstStep() {
        TorqueRows rows = new TorqueRows();
        rows.table(Desk.COST, 0, 0, 7);
        rows.table(Desk.COST, 0, 1, 9);
        Due.is("cost", rows.split(0, 2), 7);
    }

    static void promise14_isAtTheSpeedOfTheLastStep() {
        TorqueRows rows = new TorqueRows();
        rows.table(Desk.COST, 0, 0, 7);
        rows.table(Desk.COST, 0, 1, 9);
        rows.step(5, 5, 1000);
        Due.is("cost", rows.split(0, 2), 9);
        rows.step(5, 5, 10001);
        Due.is("cost after a refused STEP", rows.split(0, 2), 9);
        rows.sensor(2, 1);
        rows.step(5, 5, 0);
        Due.is("cost with the speed LOST", rows.split(0, 2), 9);
        rows.sensor(2, 0);
        rows.step(5, 5, 0);
        Due.is("cost at SPEED 0 again", rows.split(0, 2), 7);
    }

    static void promise14_isOfTheCostTableAlone() {
        TorqueRows rows = new TorqueRows();
        for (int kind = 0; kind < 4; kind++) {
            rows.table(kind, 0, 0, 999);
        }
        Due.is("cost", rows.split(0, 2), 0);
    }

    // "the m that costs the least together, of such the least one"

    static void promise14_oneCheaperWithoutTheMotor() {
        TorqueRows rows = new TorqueRows();
        rows.table(Desk.COST, 1, 0, 157);
        shares(rows, 50, 50, 0, 61);
    }

    static void promise14_alikeWithAndWithoutTheMotorTakesNone() {
        TorqueRows rows = new TorqueRows();
        rows.table(Desk.COST, 1, 0, 159);
        shares(rows, 50, 50, 0, 62);
    }

    static void promise14_oneDearerWithoutTheMotorTakesIt() {
        TorqueRows rows = new TorqueRows();
        rows.table(Desk.COST, 1, 0, 162);
        shares(rows, 50, 0, 50, 62);
    }

    static void promise14_alikeOnASteepTableTakesNone() {
        TorqueRows rows = new TorqueRows();
        rows.table(Desk.COST, 2, 0, 1000);
        // 7.8 for one more: 54, 62 and 70 without a motor, 62 with 50 and nothing for what is left.
        shares(rows, 135, 135, 0, 54);
        shares(rows, 136, 136, 0, 62);
        shares(rows, 137, 87, 50, 62);
    }

    static void promise14_oneDearerOnASteepTableTakesTheMotor() {
        TorqueRows rows = new TorqueRows();
        rows.table(Desk.COST, 2, 0, 900);
        // 56 and 63 without a motor.
        shares(rows, 136, 136, 0, 56);
        shares(rows, 137, 87, 50, 62);
    }

    static void promise14_ofTwoMotorsAlikeTheLesser() {
        TorqueRows rows = new TorqueRows();
        // 50 costs 62 + 87, 62 + 88 or 62 + 89, and 100 costs 150.
        rows.table(Desk.COST, 1, 0, 225);
        shares(rows, 100, 50, 50, 149);
        rows.table(Desk.COST, 1, 0, 226);
        shares(rows, 100, 50, 50, 150);
        rows.table(Desk.COST, 1, 0, 228);
        shares(rows, 100, 0, 100, 150);
    }

    static void promise14_allCostsAlikeTakeNoMotor() {
        shares(Desk.flat(Desk.COST, 1000), 1000, 1000, 0, 1000);
        shares(new TorqueRows(), 1000, 1000, 0, 0);
    }

    static void promise14_theLeastIsLookedForBeyondADearerOne() {
        TorqueRows rows = new TorqueRows();
        rows.table(Desk.COST, 1, 0, 1000);
        rows.table(Desk.COST, 2, 0, 1000);
        // 256 alone costs 1000, 50 and 206 cost 1062, 250 and 6 cost 562 + 46.
        shares(rows, 256, 6, 250, 608);
    }

    // "-2 wish is not 0 .. 1000"

    static void promise14_wishAtItsEndsIsTaken() {
        TorqueRows rows = new TorqueRows();
        Due.is("left of 0", rows.split(0, 0), 0);
        Due.is("left of 1", rows.split(1, 0), 1);
        Due.is("left of 999", rows.split(999, 0), 999);
        Due.is("left of 1000", rows.split(1000, 0), 1000);
    }

    static void promise14_wishBelow0IsRefused() {
        for (int n = 0; n <= 2; n++) {
            int i = n;
            Twins.refuse("split(-1, " + i + ")", -2, rows -> rows.split(-1, i));
        }
        Twins.refuse("the least wish", -2, rows -> rows.split(Long.MIN_VALUE, 0));
    }

    static void promise14_wishAbove1000IsRefused() {
        for (int n = 0; n <= 2; n++) {
            int i = n;
            Twins.refuse("split(1001, " + i + ")", -2, rows -> rows.split(1001, i));
        }
        Twins.refuse("the greatest wish", -2, rows -> rows.split(Long.MAX_VALUE, 0));
    }

    static void promise14_wishThatWrapsRoundIsRefused() {
        Twins.refuse("split(2^32 + 5, 0)", -2, rows -> rows.split(Desk.WRAP + 5, 0));
        Twins.refuse("split(5 - 2^32, 0)", -2, rows -> rows.split(5 - Desk.WRAP, 0));
    }

    // "or another i": 0, 1, 2.

    static void promise14_iBelow0IsRefused() {
        Twins.refuse("split(500, -1)", -2, rows -> rows.split(500, -1));
        Twins.refuse("the least i", -2, rows -> rows.split(500, Integer.MIN_VALUE));
    }

    static void promise14_iAbove2IsRefused() {
        Twins.refuse("split(500, 3)", -2, rows -> rows.split(500, 3));
        Twins.refuse("the greatest i", -2, rows -> rows.split(500, Integer.MAX_VALUE));
    }

    static void promise14_wishAndIBothOutsideAreRefusedOnce() {
        Twins.refuse("split(-1, -1)", -2, rows -> rows.split(-1, -1));
        Twins.refuse("split(1001, 3)", -2, rows -> rows.split(1001, 3));
    }

    static void promise14_changesNothing() {
        for (int n = 0; n <= 2; n++) {
            int i = n;
            Twins.changesNothing(rows -> rows.split(500, i));
        }
    }
}
