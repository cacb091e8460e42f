/** ALARMS: how many wait, when they are sent again, which are told, and how many of those are kept. */
public final class AlarmLimitsTest {
    public static void main(String[] args) {
        Bench b = new Bench("limits of alarms");
        for (int d = 0; d < 2; d++) {
            fourWait(b, d);
            theOneOnItsWayIsOneOfTheFour(b, d);
            sentAgainEachThreeTicks(b, d);
            takenByItsNumber(b, d);
            oneAtATime(b, d);
        }
        onlyInData(b);
        onlyIfExpected(b);
        toldByItsNumber(b);
        latestEight(b);
        b.finish();
    }

    private static FieldRelay inData(int d) {
        FieldRelay x = Rig.alike(false);
        Rig.connect(x, d);
        return x;
    }

    private static void change(FieldRelay x, int d, int n) {
        x.plug(d, n % 3, 1 + n % 7);
    }

    /** An ALARM waits (4 at most, others are lost). */
    private static void fourWait(Bench b, int d) {
        FieldRelay x = inData(d);
        for (int n = 1; n <= 6; n++) {
            change(x, d, n);
            b.is("changes: " + n, x.device(d, 3), Math.min(n, 4));
        }
        b.is("their slots differ nevertheless", x.device(d, 2), 7);
        for (int n = 1; n <= 4; n++) {
            x.tick(1);
            b.frame("the " + n + ". that waited", x, 1, Rig.ALARM, 1, n, Rig.CONTROLLER, n % 3, 2 + n % 7);
            Rig.drain(x);
            b.is("they wait", x.device(d, 3), 4 - n);
        }
        x.tick(1);
        b.wire("the fifth is lost", x, Rig.OUTPUT, Rig.INPUT);
        Rig.drain(x);
        change(x, d, 9);
        b.is("there is room again", x.device(d, 3), 1);
        b.is("four were told", x.count(6), 4);
    }

    private static void theOneOnItsWayIsOneOfTheFour(Bench b, int d) {
        FieldRelay x = inData(d);
        change(x, d, 1);
        x.tick(1);
        b.is("on its way", x.device(d, 4), 1);
        b.is("it waits, too", x.device(d, 3), 1);
        for (int n = 2; n <= 5; n++) {
            change(x, d, n);
            b.is("changes: " + n, x.device(d, 3), Math.min(n, 4));
        }
        Rig.drain(x);
        b.is("taken", x.device(d, 3), 3);
        change(x, d, 6);
        b.is("room for one", x.device(d, 3), 4);
        change(x, d, 7);
        b.is("and not for two", x.device(d, 3), 4);
        int[] told = {2, 3, 4, 6};
        for (int n : told) {
            Rig.cycle(x);
            b.is("in the order of waiting", x.alarms(0), 64 * d + 16 * (n % 3) + 2 + n % 7);
        }
        b.is("none waits", x.device(d, 3), 0);
    }

    /** It is sent again each 3 TICKS until it is TAKEN. */
    private static void sentAgainEachThreeTicks(Bench b, int d) {
        FieldRelay x = inData(d);
        change(x, d, 2);
        for (int n = 0; n <= 9; n++) {
            x.tick(1);
            int k = Rig.find(x, Rig.ALARM);
            b.is("behind " + n + " ticks", k, n % 3 == 0 ? 1 : -1);
            if (k >= 0) {
                b.frame("the same", x, k, Rig.ALARM, 1, 1, Rig.CONTROLLER, 2, 4);
                x.lose(k);
            }
            Rig.drain(x);
        }
        x.tick(2);
        Rig.drain(x);
        x.tick(1);
        x.deliver(Rig.find(x, Rig.ALARM));
        Rig.deliverType(x, Rig.TAKEN);
        b.is("taken in the tick it was sent again", x.device(d, 4), 0);
        for (int n = 0; n < 4; n++) {
            Rig.drain(x);
            x.tick(1);
            b.wire("not sent again", x, Rig.OUTPUT, Rig.INPUT);
        }
    }

    private static void takenByItsNumber(Bench b, int d) {
        FieldRelay x = inData(d);
        change(x, d, 1);
        change(x, d, 2);
        x.tick(1);
        Rig.deliverType(x, Rig.ALARM);
        x.repeat(Rig.find(x, Rig.TAKEN));
        Rig.deliverType(x, Rig.TAKEN);
        b.is("none is on its way before the tick", x.device(d, 4), 0);
        Rig.deliverType(x, Rig.OUTPUT);
        x.repeat(Rig.find(x, Rig.TAKEN));
        Rig.deliverType(x, Rig.TAKEN);
        b.is("TAKEN once more takes none", x.device(d, 3), 1);
        x.tick(1);
        Rig.deliverType(x, Rig.TAKEN);
        b.is("TAKEN of the one before", x.device(d, 4), 2);
        b.is("takes none", x.device(d, 3), 1);
        Rig.deliverType(x, Rig.ALARM);
        Rig.deliverType(x, Rig.TAKEN);
        b.is("TAKEN of its number", x.device(d, 4), 0);
        b.is("takes it", x.device(d, 3), 0);
    }

    /** One at a time, the one that waits longest, is on its way. */
    private static void oneAtATime(Bench b, int d) {
        FieldRelay x = inData(d);
        change(x, d, 1);
        change(x, d, 2);
        for (int n = 0; n < 6; n++) {
            x.tick(1);
            int k = Rig.find(x, Rig.ALARM);
            if (k >= 0) {
                b.is("number 1 alone", x.frame(k, 2), 1);
                x.lose(k);
            }
            Rig.drain(x);
        }
        b.is("on its way", x.device(d, 4), 1);
        b.is("both wait", x.device(d, 3), 2);
    }

    private static void onlyInData(Bench b) {
        for (int state = Rig.SEEKING; state <= Rig.WAITING; state++) {
            FieldRelay x = Rig.brought(0, state);
            x.plug(0, 1, 5);
            b.is("relation's state " + state + ": none waits", x.device(0, 3), 0);
        }
        FieldRelay x = Rig.brought(0, Rig.R_DATA);
        x.plug(0, 1, 5);
        b.device("READYING until GO comes", x, 0, Rig.READYING, 1, 4, 0, 0);
        x.deliver(0);
        x.plug(0, 1, 6);
        b.device("then an alarm waits", x, 0, Rig.D_DATA, 1, 6, 1, 0);
        x.close(0);
        Rig.drain(x);
        x.plug(0, 1, 5);
        b.device("IDLE, none waits", x, 0, Rig.IDLE, 0, 0, 0, 0);
    }

    private static void onlyIfExpected(Bench b) {
        FieldRelay x = Rig.alike(false);
        x.expect(0, 1, -1, 0);
        Rig.connect(x, 0);
        x.plug(0, 1, 5);
        x.plug(0, 1, -1);
        b.device("not expected in slot 1", x, 0, Rig.D_DATA, 1, 0, 0, 0);
        x.plug(0, 0, -1);
        x.plug(0, 2, 5);
        b.device("expected in slots 0 and 2", x, 0, Rig.D_DATA, 1, 5, 2, 0);
    }

    /** If the number is not that of the ALARM told before in this SESSION, it is told; TAKEN is sent always. */
    private static void toldByItsNumber(Bench b) {
        FieldRelay x = inData(0);
        x.plug(0, 0, -1);
        x.tick(1);
        x.repeat(1);
        x.deliver(1);
        b.is("told", x.count(6), 1);
        x.deliver(Rig.find(x, Rig.ALARM));
        b.is("the same number is not told", x.count(6), 1);
        Rig.drain(x);
        x.plug(0, 0, 0);
        Rig.cycle(x);
        b.is("the next number is told", x.count(6), 2);
        x.close(0);
        Rig.drain(x);
        Rig.connect(x, 0);
        x.plug(0, 0, -1);
        Rig.cycle(x);
        x.close(0);
        Rig.drain(x);
        x.plug(0, 0, 0);
        Rig.connect(x, 0);
        x.plug(0, 0, -1);
        x.tick(1);
        b.is("number 1 once more", x.frame(1, 2), 1);
        Rig.drain(x);
        b.is("told, for it is another session", x.count(6), 4);
    }

    /** The k-th of the latest 8 ALARMS told (0 the latest). */
    private static void latestEight(Bench b) {
        FieldRelay x = inData(1);
        for (int told = 0; told <= 17; told++) {
            for (int k = -1; k <= 9; k++) {
                boolean there = k >= 0 && k < 8 && k < told;
                int n = told - k;
                b.is("alarms(" + k + ") of " + told, x.alarms(k), there ? 64 + 16 * (n % 3) + 2 + n % 7 : -2);
            }
            change(x, 1, told + 1);
            Rig.cycle(x);
        }
    }
}
