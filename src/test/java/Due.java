/** Compares answers with what is due and ends a test with exit code 1 if one is wrong. */
final class Due {
    private static int wrong = 0;
    private static int looked = 0;
    private static String caseNow = "";

    private Due() {
    }

    static void begin(String name) {
        caseNow = name + ": ";
    }

    static void is(String call, long got, long want) {
        looked++;
        if (got != want) {
            wrong++;
            System.out.println(caseNow + call + " answered " + got + ", due is " + want);
        }
    }

    static void isTrue(String what, boolean holds) {
        is(what, holds ? 1 : 0, 1);
    }

    static int looked() {
        return looked;
    }

    static void end() {
        System.out.println(looked + " answers looked at, " + wrong + " wrong");
        if (wrong != 0 || looked == 0) {
            System.exit(1);
        }
    }
}
