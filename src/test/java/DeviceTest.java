/** Promise 18: device. */
public final class DeviceTest {
    public static void main(String[] args) {
        Bench b = new Bench("promise 18");
        edges(b);
        everyState(b);
        comparing(b);
        alarmsThatWait(b);
        alarmsAreSentAgain(b);
        alarmsEndWithTheSession(b);
        aSessionOnceMore(b);
        b.finish();
    }

    private static void edges(Bench b) {
        FieldRelay x = Rig.inData();
        for (int wrong : Rig.WRONG_PAIR) {
            b.is("device(" + wrong + ", 0)", x.device(wrong, 0), -1);
        }
        for (int wrong : new int[] {-1, 9, Integer.MIN_VALUE, Integer.MAX_VALUE}) {
            b.is("device(0, " + wrong + ")", x.device(0, wrong), -1);
        }
    }

    private static void everyState(Bench b) {
        FieldRelay x = Rig.brought(0, Rig.CONNECTING);
        x.deliver(0);
        x.tick(3);
        b.device("connected", x, 0, Rig.CONNECTED, 1, 4, 0, 0, -1, -1, -1, 3);
        x.deliver(0);
        b.device("still", x, 0, Rig.CONNECTED, 1, 4, 0, 0, -1, -1, -1, 3);
        x.deliver(0);
        b.device("written", x, 0, Rig.CONNECTED, 1, 4, 0, 0, 77, -1, -1, 0);
        x.tick(2);
        x.deliver(0);
        x.deliver(0);
        b.device("readying", x, 0, Rig.READYING, 1, 4, 0, 0, 77, -1, -1, 0);
        x.tick(2);
        b.is("ticks since READY", x.device(0, 8), 2);
        Rig.drain(x);
        b.device("data", x, 0, Rig.D_DATA, 1, 4, 0, 0, 77, -1, -1, 0);
        x.tick(2);
        b.is("watch", x.device(0, 8), 2);
        x.deliver(0);
        b.is("taken", x.device(0, 8), 0);
        x.close(0);
        Rig.drain(x);
        b.device("idle", x, 0, Rig.IDLE, 0, 0, 0, 0, -1, -1, -1, 0);
        b.device("the other one", x, 1, Rig.IDLE, 0, 0, 0, 0, -1, -1, -1, 0);
    }

    private static void comparing(Bench b) {
        for (int there = -1; there <= 7; there++) {
            for (int expected = -1; expected <= 7; expected++) {
                FieldRelay x = new FieldRelay();
                x.name(1, 5);
                x.target(1, 5);
                x.plug(1, 1, there);
                x.expect(1, 1, expected, 0);
                Rig.bring(x, 1, Rig.CONNECTING);
                x.deliver(0);
                int due = expected != -1 && expected != there ? 2 : 0;
                b.is(there + " there, " + expected + " expected", x.device(1, 2), due);
            }
        }
    }

    private static void alarmsThatWait(Bench b) {
        FieldRelay x = Rig.inData();
        for (int n = 1; n <= 6; n++) {
            x.plug(0, 1, n % 2 == 0 ? 1 : 2 + n);
            b.device("at most 4 wait", x, 0, Rig.D_DATA, 1, n % 2 == 0 ? 4 : 6, Math.min(n, 4), 0);
        }
        int[] kindsPlusOne = {4, 2, 6, 2};
        for (int n = 1; n <= 4; n++) {
            x.tick(1);
            b.is("on its way", x.device(0, 4), n);
            b.is("it waits, too", x.device(0, 3), 5 - n);
            b.frame("the longest first", x, 1, Rig.ALARM, 1, n, Rig.CONTROLLER, 1, kindsPlusOne[n - 1]);
            Rig.drain(x);
            b.is("taken", x.device(0, 3), 4 - n);
            b.is("none on its way until the next is sent", x.device(0, 4), 0);
        }
        x.tick(1);
        b.wire("the others were lost", x, Rig.OUTPUT, Rig.INPUT);
    }

    private static void alarmsAreSentAgain(Bench b) {
        FieldRelay x = Rig.inData();
        x.plug(0, 0, -1);
        x.plug(0, 1, -1);
        x.tick(1);
        Rig.deliverType(x, Rig.ALARM);
        x.repeat(Rig.find(x, Rig.TAKEN));
        int late = x.count(3) - 1;
        b.is("two TAKEN", x.frame(late, 0), Rig.TAKEN);
        Rig.deliverType(x, Rig.TAKEN);
        b.device("the next waits", x, 0, Rig.D_DATA, 1, 7, 1, 0);
        x.tick(1);
        b.is("number 2", x.device(0, 4), 2);
        Rig.deliverType(x, Rig.TAKEN);
        b.device("TAKEN of another number", x, 0, Rig.D_DATA, 1, 7, 1, 2);
        Rig.drain(x);
        b.device("TAKEN", x, 0, Rig.D_DATA, 1, 7, 0, 0);
        x.plug(0, 1, 1);
        for (int n = 0; n < 7; n++) {
            x.tick(1);
            boolean due = n % 3 == 0;
            b.is("each 3 ticks", Rig.find(x, Rig.ALARM), due ? 1 : -1);
            if (due) {
                b.frame("the same", x, 1, Rig.ALARM, 1, 3, Rig.CONTROLLER, 1, 2);
                x.lose(1);
            }
            Rig.drain(x);
            b.is("on its way", x.device(0, 4), 3);
        }
        theNextCountsItsOwnTicks(b);
    }

    private static void theNextCountsItsOwnTicks(Bench b) {
        FieldRelay x = Rig.inData();
        x.plug(0, 0, -1);
        x.plug(0, 0, 0);
        x.tick(3);
        Rig.drain(x);
        b.is("the first is taken behind 2 ticks", x.device(0, 3), 1);
        for (int n = 0; n < 4; n++) {
            x.tick(1);
            b.is("the second each 3 ticks", Rig.find(x, Rig.ALARM), n % 3 == 0 ? 1 : -1);
            if (n % 3 == 0) {
                x.lose(1);
            }
            Rig.drain(x);
        }
    }

    private static void alarmsEndWithTheSession(Bench b) {
        FieldRelay x = Rig.inData();
        x.plug(0, 1, -1);
        x.plug(0, 1, 1);
        x.tick(1);
        b.device("two wait", x, 0, Rig.D_DATA, 1, 4, 2, 1);
        x.close(0);
        Rig.deliverType(x, Rig.ABORT);
        b.device("idle", x, 0, Rig.IDLE, 0, 0, 0, 0);
        Rig.loseAll(x);
        Rig.connect(x, 0);
        b.device("a new session", x, 0, Rig.D_DATA, 2, 4, 0, 0);
        x.tick(1);
        b.wire("no alarm of before", x, Rig.OUTPUT, Rig.INPUT);
        x.plug(0, 1, 5);
        x.tick(1);
        b.frame("1 is the first again", x, 3, Rig.ALARM, 2, 1, Rig.CONTROLLER, 1, 6);
    }

    /** The device loses the session by its watch and is led through it once more by late frames. */
    private static void aSessionOnceMore(Bench b) {
        FieldRelay x = Rig.inDataWithItsWayHeld();
        b.wire("kept", x, Rig.CONNECT, Rig.END, Rig.GO);
        b.is("in DATA", x.device(0, 0), Rig.D_DATA);
        x.plug(0, 0, 1);
        x.tick(1);
        x.deliver(3);
        b.is("an alarm is on its way", x.device(0, 4), 1);
        x.tick(4);
        b.is("idle by its watch", x.device(0, 0), Rig.IDLE);
        x.plug(0, 0, 0);
        for (int i = 0; i < 3; i++) {
            x.deliver(0);
        }
        b.device("in DATA once more", x, 0, Rig.D_DATA, 1, 0, 0, 0, -1, -1, -1, 0);
        Rig.loseAll(x);
        x.plug(0, 0, 3);
        x.tick(1);
        b.frame("the first alarm", x, 0, Rig.ALARM, 1, 1, Rig.CONTROLLER, 0, 4);
        b.frame("the first input", x, 1, Rig.INPUT, 1, 0, Rig.CONTROLLER);
    }
}
