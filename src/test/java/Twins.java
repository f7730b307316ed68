/**
 * Whether a call changes nothing: two objects are brought to the same state, one of them gets the call, and then
 * both get the same further calls, which bring every part of the state to light. All answers must be alike.
 */
final class Twins {
    interface Call {
        long on(TorqueRows rows);
    }

    /** The states in which a call is tried. */
    enum State { FRESH, BUSY, FULL_OF_WISHES, STOPPED_BY_WATCH, STOPPED_BY_TRACKS }

    private final String state;
    private final TorqueRows called;
    private final TorqueRows spared;

    private Twins(State state) {
        this.state = state.name();
        called = made(state);
        spared = made(state);
    }

    /** In all states the call answers this refusal and changes nothing. */
    static void refuse(String name, long answer, Call call) {
        for (State state : State.values()) {
            refuseIn(state, name, answer, call);
        }
    }

    static void refuseIn(State state, String name, long answer, Call call) {
        Twins asTheyAre = new Twins(state);
        Due.is(name + " in " + state, call.on(asTheyAre.called), answer);
        asTheyAre.lookAlike();
        // A look changes some of what it looks at, so there are two, in different orders.
        Twins started = new Twins(state);
        call.on(started.called);
        started.lookAlikeWhenStarted();
    }

    /** In all states the call, whatever it answers, changes nothing. */
    static void changesNothing(Call call) {
        for (State state : State.values()) {
            refuseIn(state, "the call", call.on(made(state)), call);
        }
    }

    static TorqueRows made(State state) {
        TorqueRows rows = new TorqueRows();
        if (state == State.FRESH) {
            return rows;
        }
        makeBusy(rows);
        switch (state) {
            case FULL_OF_WISHES:
                Desk.wishes(rows, 13, 2, 380);
                break;
            case STOPPED_BY_WATCH:
                Desk.monitors(rows, 5, 5000);
                break;
            case STOPPED_BY_TRACKS:
                Desk.steps(rows, 3, 0, 51, 900);
                break;
            default:
                break;
        }
        return rows;
    }

    /** Most parts of the state differ from those of a new object; TORQUE has just fallen, from 120 to 50. */
    private static void makeBusy(TorqueRows rows) {
        for (int kind = 0; kind < 5; kind++) {
            for (int x = 0; x < 8; x++) {
                rows.table(kind, x, 0, 20 + 10 * kind + 90 * x);
                rows.table(kind, x, 1, 25 + 11 * kind + 80 * x);
            }
        }
        rows.bound(900);
        rows.idle(1100);
        rows.cylinder(6);
        rows.limp(true);
        rows.wish(5, 300);
        rows.step(10, 10, 900);
        rows.wish(5, 300);
        rows.step(10, 10, 900);
        rows.wish(5, 300);
        rows.step(10, 61, 900);
        rows.step(0, 51, 900);
        Desk.monitors(rows, 3, 5000);
        rows.wish(1, 400);
        rows.wish(2, 350);
        rows.wish(4, 360);
        rows.sensor(2, 1);
    }

    private void alike(String what, Call call) {
        Due.is(state + " afterwards " + what, call.on(called), call.on(spared));
    }

    private void lookAlike() {
        numbersAlike();
        watchAlike();
        alike("split", rows -> rows.split(500, 2));
        alike("period", rows -> rows.period(1));
        alike("limp", rows -> rows.limp(true));
        alike("wishes that wait", rows -> rows.wish(3, 1000));
        stepsAlike();
        sensorsAlike();
        stepsAlike();
        alike("stopped", rows -> rows.limp(false));
        stepsAlike();
        alike("bound", rows -> rows.bound(0));
        alike("idle", rows -> rows.idle(0));
        tablesAlike();
    }

    /** A desk that is STOPPED hides the watch and the wishes: here it is started before they are looked at. */
    private void lookAlikeWhenStarted() {
        alike("limp and stopped", rows -> rows.limp(false));
        watchAlike();
        sensorsAlike();
        stepsAlike();
        alike("wishes that wait", rows -> rows.wish(3, 1000));
        stepsAlike();
        numbersAlike();
    }

    private void sensorsAlike() {
        for (int n = 0; n < 3; n++) {
            int which = n;
            alike("sensor " + n, rows -> rows.sensor(which, 0));
        }
    }

    private void numbersAlike() {
        alike("torque", TorqueRows::torque);
        for (int n = 0; n < 8; n++) {
            int what = n;
            alike("value " + n, rows -> rows.value(what));
        }
        for (int n = 0; n < 4; n++) {
            int what = n;
            alike("sum " + n, rows -> rows.sum(what));
        }
    }

    /** The count, and by halves the greatest number that is not too much. */
    private void watchAlike() {
        alike("too much", rows -> rows.monitor(Long.MAX_VALUE));
        long low = 0;
        long high = 1024;
        while (high - low > 1) {
            long middle = (low + high) / 2;
            long due = spared.monitor(middle);
            Due.is(state + " afterwards monitor " + middle, called.monitor(middle), due);
            if (due == 0) {
                low = middle;
            } else {
                high = middle;
            }
        }
    }

    private void stepsAlike() {
        alike("step", rows -> rows.step(0, 51, 850));
        alike("torque", TorqueRows::torque);
        alike("wanted", rows -> rows.value(1));
        alike("stored", rows -> rows.value(4));
        alike("different", rows -> rows.value(5));
    }

    private void tablesAlike() {
        for (int n = 0; n < 320; n++) {
            int place = n;
            alike("table " + n, rows -> rows.table(place / 64, place / 8 % 8, place % 8, 0));
        }
    }
}
