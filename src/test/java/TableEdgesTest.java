/** The edges of promises 1 (a new object) and 2 (table), and of THE VALUE of a table between its places. */
public final class TableEdgesTest {
    public static void main(String[] args) throws Exception {
        Cases.run(TableEdgesTest.class);
    }

    // "TorqueRows(): All values 0, four cylinders."

    static void promise1_torqueIsZeroAtFirst() {
        Due.is("torque()", new TorqueRows().torque(), 0);
    }

    static void promise1_everyValueIsZeroAtFirst() {
        TorqueRows rows = new TorqueRows();
        for (int what = 0; what <= 7; what++) {
            Due.is("value(" + what + ")", rows.value(what), 0);
        }
    }

    static void promise1_everySumIsZeroAtFirst() {
        TorqueRows rows = new TorqueRows();
        for (int what = 0; what <= 3; what++) {
            Due.is("sum(" + what + ")", rows.sum(what), 0);
        }
    }

    static void promise1_everyPlaceOfEveryTableIsZeroAtFirst() {
        TorqueRows rows = new TorqueRows();
        for (int n = 0; n < 320; n++) {
            Due.is("table", rows.table(n / 64, n / 8 % 8, n % 8, 1000), 0);
        }
    }

    static void promise1_fourCylindersNotThreeNorFive() {
        TorqueRows rows = new TorqueRows();
        Due.is("period(1)", Desk.periodOrThrow(rows, 1), 30000000);
        rows.cylinder(3);
        Due.is("period(1) of three", Desk.periodOrThrow(rows, 1), 40000000);
        rows.cylinder(5);
        Due.is("period(1) of five", Desk.periodOrThrow(rows, 1), 24000000);
    }

    static void promise1_idleIs800AtFirst() {
        Due.is("idle(0)", new TorqueRows().idle(0), 800);
        TorqueRows rows = new TorqueRows();
        rows.step(0, 0, 796);
        Due.is("4 below it wants 1", rows.value(1), 1);
    }

    static void promise1_boundIs1000AtFirst() {
        Due.is("bound(0)", new TorqueRows().bound(0), 1000);
        TorqueRows rows = new TorqueRows();
        rows.wish(5, 1000);
        rows.step(1, 1, 900);
        Due.is("1000 is not bounded", rows.value(1), 1000);
    }

    static void promise1_sensorsAreGoodAtFirst() {
        for (int which = 0; which <= 2; which++) {
            Due.is("sensor(" + which + ", 1)", new TorqueRows().sensor(which, 1), 0);
        }
    }

    static void promise1_limpIsOffAndNothingStoppedAtFirst() {
        Due.is("limp(false)", new TorqueRows().limp(false), 0);
        Due.is("limp(true)", new TorqueRows().limp(true), 1);
        Due.is("monitor(0)", new TorqueRows().monitor(0), 0);
    }

    static void promise1_noWishWaitsAtFirst() {
        Due.is("wish(1, 0)", new TorqueRows().wish(1, 0), 1);
    }

    static void promise1_aSecondObjectBeginsAnew() {
        TorqueRows first = Desk.flat(Desk.PEDAL, 500);
        first.bound(3);
        first.step(9, 9, 900);
        first.wish(1, 1);
        TorqueRows second = new TorqueRows();
        Due.is("table", second.table(0, 0, 0, 0), 0);
        Due.is("bound", second.bound(0), 1000);
        Due.is("sum(0)", second.sum(0), 0);
        Due.is("wish", second.wish(1, 1), 1);
    }

    // "An object is used for at most 512 calls after it has been made."

    static void promise1_the512thCallStillAnswers() {
        TorqueRows rows = new TorqueRows();
        Desk.steps(rows, 510, 1, 1, 1);
        Due.is("call 511", rows.step(1, 1, 1), 0);
        Due.is("call 512", rows.sum(0), 511);
    }

    // "A value at a place of a TABLE: what it was."

    static void promise2_answersWhatItWas() {
        TorqueRows rows = new TorqueRows();
        Due.is("the first", rows.table(2, 3, 4, 7), 0);
        Due.is("the second", rows.table(2, 3, 4, 8), 7);
        Due.is("the same again", rows.table(2, 3, 4, 8), 8);
    }

    static void promise2_everyPlaceIsItsOwn() {
        TorqueRows rows = new TorqueRows();
        for (int n = 0; n < 192; n++) {
            rows.table(n / 64, n / 8 % 8, n % 8, n);
        }
        for (int n = 0; n < 192; n++) {
            Due.is("table " + n, rows.table(n / 64, n / 8 % 8, n % 8, 0), n);
        }
        TorqueRows others = new TorqueRows();
        for (int n = 128; n < 320; n++) {
            others.table(n / 64, n / 8 % 8, n % 8, n);
        }
        for (int n = 128; n < 320; n++) {
            Due.is("table " + n, others.table(n / 64, n / 8 % 8, n % 8, 0), n);
        }
    }

    // "-1 there is no such KIND": KINDS are 0 .. 4.

    static void promise2_kind0AndKind1AreTaken() {
        kindIsTaken(0);
        kindIsTaken(1);
    }

    static void promise2_kind3AndKind4AreTaken() {
        kindIsTaken(3);
        kindIsTaken(4);
    }

    private static void kindIsTaken(int kind) {
        TorqueRows rows = new TorqueRows();
        Due.is("kind " + kind, rows.table(kind, 0, 0, 5), 0);
        Due.is("kind " + kind + " again", rows.table(kind, 0, 0, 6), 5);
    }

    static void promise2_kindBelow0IsRefused() {
        Twins.refuse("kind -1", -1, rows -> rows.table(-1, 0, 0, 5));
        Twins.refuse("the least kind", -1, rows -> rows.table(Integer.MIN_VALUE, 0, 0, 5));
    }

    static void promise2_kindAbove4IsRefused() {
        Twins.refuse("kind 5", -1, rows -> rows.table(5, 0, 0, 5));
        Twins.refuse("the greatest kind", -1, rows -> rows.table(Integer.MAX_VALUE, 0, 0, 5));
    }

    static void promise2_kindThatWrapsRoundIsRefused() {
        // 64 times this kind is 0 in an int: an index that is worked out before the look would fit.
        Twins.refuse("kind 2^26", -1, rows -> rows.table(1 << 26, 0, 0, 5));
    }

    // "-2 there is no such place": x 0 .. 7, y 0 .. 7.

    static void promise2_placesAtTheEndsAreTaken() {
        int[] ends = {0, 1, 6, 7};
        for (int x : ends) {
            for (int y : ends) {
                TorqueRows rows = new TorqueRows();
                Due.is("(" + x + ", " + y + ")", rows.table(4, x, y, 5), 0);
                Due.is("(" + x + ", " + y + ") again", rows.table(4, x, y, 6), 5);
            }
        }
    }

    static void promise2_xBelow0IsRefused() {
        Twins.refuse("x -1", -2, rows -> rows.table(2, -1, 3, 5));
        Twins.refuse("the least x", -2, rows -> rows.table(2, Integer.MIN_VALUE, 3, 5));
    }

    static void promise2_xAbove7IsRefused() {
        Twins.refuse("x 8", -2, rows -> rows.table(2, 8, 3, 5));
        Twins.refuse("the greatest x", -2, rows -> rows.table(2, Integer.MAX_VALUE, 3, 5));
        Twins.refuse("x 2^29, which wraps round", -2, rows -> rows.table(2, 1 << 29, 3, 5));
    }

    static void promise2_yBelow0IsRefused() {
        Twins.refuse("y -1", -2, rows -> rows.table(2, 3, -1, 5));
        Twins.refuse("the least y", -2, rows -> rows.table(2, 3, Integer.MIN_VALUE, 5));
    }

    static void promise2_yAbove7IsRefused() {
        Twins.refuse("y 8", -2, rows -> rows.table(2, 3, 8, 5));
        Twins.refuse("the greatest y", -2, rows -> rows.table(2, 3, Integer.MAX_VALUE, 5));
    }

    // "or v is none": values 0 .. 1000.

    static void promise2_vAtItsEndsIsTaken() {
        long[] ends = {0, 1, 999, 1000};
        for (long v : ends) {
            TorqueRows rows = new TorqueRows();
            rows.table(3, 2, 5, 500);
            Due.is("v " + v, rows.table(3, 2, 5, v), 500);
            Due.is("after v " + v, rows.table(3, 2, 5, 500), v);
        }
    }

    static void promise2_vBelow0IsRefused() {
        Twins.refuse("v -1", -2, rows -> rows.table(0, 0, 0, -1));
        Twins.refuse("the least v", -2, rows -> rows.table(0, 0, 0, Long.MIN_VALUE));
    }

    static void promise2_vAbove1000IsRefused() {
        Twins.refuse("v 1001", -2, rows -> rows.table(0, 0, 0, 1001));
        Twins.refuse("the greatest v", -2, rows -> rows.table(0, 0, 0, Long.MAX_VALUE));
    }

    static void promise2_vThatWrapsRoundIsRefused() {
        Twins.refuse("v 2^32 + 5", -2, rows -> rows.table(0, 0, 0, Desk.WRAP + 5));
        Twins.refuse("v 5 - 2^32", -2, rows -> rows.table(0, 0, 0, 5 - Desk.WRAP));
    }

    // "REFUSALS change nothing and answer, the first that fits."

    static void promise2_noSuchKindComesBeforeNoSuchPlace() {
        Twins.refuse("kind and x", -1, rows -> rows.table(5, 8, 0, 5));
        Twins.refuse("kind and y", -1, rows -> rows.table(-1, 0, -1, 5));
    }

    static void promise2_noSuchKindComesBeforeNoneV() {
        Twins.refuse("kind and v", -1, rows -> rows.table(5, 0, 0, 1001));
        Twins.refuse("kind, place and v", -1, rows -> rows.table(-1, 8, -1, -1));
    }

    // "a is brought between 0 and 896"

    static void promise2_aAtItsLowerEnd() {
        TorqueRows rows = new TorqueRows();
        rows.table(Desk.PEDAL, 0, 1, 1000);
        valueAt(rows, 0, 1000, 1000);
        valueAt(rows, 1, 1000, 992);
    }

    static void promise2_aAtItsUpperEnd() {
        TorqueRows rows = new TorqueRows();
        rows.table(Desk.PEDAL, 7, 1, 1000);
        valueAt(rows, 895, 1000, 992);
        valueAt(rows, 896, 1000, 1000);
        valueAt(rows, 897, 1000, 1000);
        valueAt(rows, 1000, 1000, 1000);
    }

    // "s between 0 and 7000 (the nearer end counts)"

    static void promise2_sAtItsLowerEnd() {
        // A pedal has no torque at SPEED 0, so the air shows that end.
        TorqueRows rows = new TorqueRows();
        rows.table(Desk.AIR, 0, 0, 1000);
        rows.step(0, 0, 0);
        Due.is("at SPEED 0", rows.value(2), 1000);
        rows.bound(0);
        rows.step(0, 0, 1);
        Due.is("at SPEED 1", rows.value(2), 999);
    }

    static void promise2_sAtItsUpperEnd() {
        TorqueRows rows = new TorqueRows();
        rows.table(Desk.PEDAL, 1, 7, 1000);
        valueAt(rows, 128, 6999, 999);
        valueAt(rows, 128, 7000, 1000);
        valueAt(rows, 128, 7001, 1000);
        valueAt(rows, 128, 10000, 1000);
    }

    static void promise2_bothAtTheirUpperEnds() {
        TorqueRows rows = new TorqueRows();
        rows.table(Desk.PEDAL, 7, 7, 1000);
        valueAt(rows, 896, 7000, 1000);
        valueAt(rows, 1000, 10000, 1000);
        valueAt(rows, 895, 6999, 991);
    }

    // "i = a / 128, 6 at most"

    static void promise2_aAtAPlaceInside() {
        TorqueRows rows = new TorqueRows();
        rows.table(Desk.PEDAL, 1, 1, 1000);
        valueAt(rows, 127, 1000, 992);
        valueAt(rows, 128, 1000, 1000);
        valueAt(rows, 129, 1000, 992);
    }

    static void promise2_aAtTheLastPlaceButOne() {
        TorqueRows rows = new TorqueRows();
        rows.table(Desk.PEDAL, 6, 1, 1000);
        valueAt(rows, 767, 1000, 992);
        valueAt(rows, 768, 1000, 1000);
        valueAt(rows, 769, 1000, 992);
        valueAt(rows, 895, 1000, 7);
        valueAt(rows, 896, 1000, 0);
    }

    static void promise2_aOutsideItsTwoPlacesCountsNothing() {
        TorqueRows rows = new TorqueRows();
        rows.table(Desk.PEDAL, 3, 1, 1000);
        valueAt(rows, 256, 1000, 0);
        valueAt(rows, 257, 1000, 7);
        valueAt(rows, 511, 1000, 7);
        valueAt(rows, 512, 1000, 0);
    }

    // "j = s / 1000, 6 at most"

    static void promise2_sAtAPlaceInside() {
        TorqueRows rows = new TorqueRows();
        rows.table(Desk.PEDAL, 1, 1, 1000);
        valueAt(rows, 128, 999, 999);
        valueAt(rows, 128, 1000, 1000);
        valueAt(rows, 128, 1001, 999);
    }

    static void promise2_sAtTheLastPlaceButOne() {
        TorqueRows rows = new TorqueRows();
        rows.table(Desk.PEDAL, 1, 6, 1000);
        valueAt(rows, 128, 5999, 999);
        valueAt(rows, 128, 6000, 1000);
        valueAt(rows, 128, 6001, 999);
        valueAt(rows, 128, 6999, 1);
        valueAt(rows, 128, 7000, 0);
    }

    static void promise2_sOutsideItsTwoPlacesCountsNothing() {
        TorqueRows rows = new TorqueRows();
        rows.table(Desk.PEDAL, 1, 3, 1000);
        valueAt(rows, 128, 2000, 0);
        valueAt(rows, 128, 2001, 1);
        valueAt(rows, 128, 3999, 1);
        valueAt(rows, 128, 4000, 0);
    }

    // ".. / 128000, towards smaller ones"

    static void promise2_aWholeNumberStaysAndLessGoesToTheSmaller() {
        TorqueRows rows = new TorqueRows();
        rows.table(Desk.PEDAL, 1, 1, 2);
        valueAt(rows, 191, 1000, 1);
        valueAt(rows, 192, 1000, 1);
        valueAt(rows, 193, 1000, 0);
    }

    static void promise2_fourCornersAreSummedBeforeTheDivision() {
        TorqueRows rows = new TorqueRows();
        rows.table(Desk.PEDAL, 1, 1, 1);
        rows.table(Desk.PEDAL, 2, 1, 1);
        rows.table(Desk.PEDAL, 1, 2, 1);
        valueAt(rows, 192, 1500, 0);
        rows.table(Desk.PEDAL, 2, 2, 1);
        valueAt(rows, 192, 1500, 1);
        rows.table(Desk.PEDAL, 2, 2, 4);
        valueAt(rows, 192, 1500, 1);
        rows.table(Desk.PEDAL, 2, 2, 5);
        valueAt(rows, 192, 1500, 2);
    }

    static void promise2_eachCornerHasItsOwnShare() {
        // At (144, 1100): p = 16 and q = 100, the shares 0.7875, 0.1125, 0.0875 and 0.0125.
        cornerAlone(1, 1, 787);
        cornerAlone(2, 1, 112);
        cornerAlone(1, 2, 87);
        cornerAlone(2, 2, 12);
    }

    private static void cornerAlone(int x, int y, long want) {
        TorqueRows rows = new TorqueRows();
        rows.table(Desk.PEDAL, x, y, 1000);
        valueAt(rows, 144, 1100, want);
    }

    static void promise2_greatestValuesStayTheGreatest() {
        TorqueRows rows = Desk.flat(Desk.PEDAL, 1000);
        valueAt(rows, 0, 2500, 1000);
        valueAt(rows, 64, 1500, 1000);
        valueAt(rows, 833, 6501, 1000);
        valueAt(rows, 1000, 10000, 1000);
    }

    private static void valueAt(TorqueRows rows, long a, long s, long want) {
        rows.step(a, a, s);
        Due.is("the value at (" + a + ", " + s + ")", rows.value(1), want);
    }

    // The same ends for the other four tables, each asked where the document asks it.

    static void promise2_limpTableAtItsEnds() {
        TorqueRows rows = new TorqueRows();
        rows.limp(true);
        rows.table(Desk.LIMP, 7, 7, 1000);
        valueAt(rows, 895, 7000, 992);
        valueAt(rows, 896, 7000, 1000);
        valueAt(rows, 897, 7000, 1000);
        valueAt(rows, 896, 6999, 999);
        valueAt(rows, 896, 7001, 1000);
        valueAt(rows, 1000, 10000, 1000);
    }

    static void promise2_airTableAtItsEnds() {
        airAt(0, 7000, 0, 7, 1000);
        airAt(1, 7000, 0, 7, 992);
        airAt(895, 7000, 7, 7, 992);
        airAt(896, 7000, 7, 7, 1000);
        airAt(897, 7000, 7, 7, 1000);
        airAt(896, 6999, 7, 7, 999);
        airAt(896, 7001, 7, 7, 1000);
        airAt(1000, 10000, 7, 7, 1000);
    }

    private static void airAt(long torque, long speed, int x, int y, long want) {
        TorqueRows rows = new TorqueRows();
        rows.table(Desk.AIR, x, y, 1000);
        Desk.torqueTo(rows, torque, speed);
        Due.is("AIR at (" + torque + ", " + speed + ")", rows.value(2), want);
    }

    static void promise2_fuelTableAtItsEnds() {
        fuelAt(0, 7000, 0, 7, 1000);
        fuelAt(1, 7000, 0, 7, 992);
        fuelAt(895, 7000, 7, 7, 992);
        fuelAt(896, 7000, 7, 7, 1000);
        fuelAt(897, 7000, 7, 7, 1000);
        fuelAt(896, 6999, 7, 7, 999);
        fuelAt(896, 7001, 7, 7, 1000);
        fuelAt(1000, 10000, 7, 7, 1000);
    }

    private static void fuelAt(long air, long speed, int x, int y, long want) {
        TorqueRows rows = Desk.flat(Desk.AIR, air);
        rows.table(Desk.FUEL, x, y, 1000);
        rows.step(1, 1, speed);
        Due.is("FUEL at (" + air + ", " + speed + ")", rows.value(3), want);
    }

    static void promise2_costTableAtItsEnds() {
        // All below 62, which the least motor costs, so that all is left.
        costAt(0, 0, 0, 0, 60);
        costAt(1, 0, 0, 0, 59);
        costAt(0, 1, 0, 0, 59);
        costAt(895, 7000, 7, 7, 59);
        costAt(896, 7000, 7, 7, 60);
        costAt(897, 7000, 7, 7, 60);
        costAt(896, 6999, 7, 7, 59);
        costAt(896, 7001, 7, 7, 60);
        costAt(1000, 10000, 7, 7, 60);
    }

    private static void costAt(long left, long speed, int x, int y, long want) {
        TorqueRows rows = new TorqueRows();
        rows.table(Desk.COST, x, y, 60);
        rows.step(0, 0, speed);
        Due.is("COST at (" + left + ", " + speed + ")", rows.split(left, 2), want);
    }
}
