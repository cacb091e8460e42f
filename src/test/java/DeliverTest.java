/** Promise 12: deliver, and what the frames bring about. */
public final class DeliverTest {
    public static void main(String[] args) {
        Bench b = new Bench("promise 12");
        edges(b);
        wholeWay(b);
        anyFrameFirst(b);
        goneBeforeWhatItBringsAbout(b);
        framesThatDoNotGoWithTheState(b);
        framesOfOtherSessions(b);
        connectAnew(b);
        refusedByABusyDevice(b);
        foundForBoth(b);
        foundUnderAnOldName(b);
        endWithoutParameter(b);
        onlyNewerDataIsTaken(b);
        aLostFrameDoesNotHarmTheNextReader(b);
        b.finish();
    }

    private static void edges(Bench b) {
        FieldRelay x = Rig.prepared();
        b.is("deliver(0) of none", x.deliver(0), -2);
        x.open(0);
        for (int wrong : new int[] {-1, 1, 16, Integer.MIN_VALUE, Integer.MAX_VALUE}) {
            b.is("deliver(" + wrong + ")", x.deliver(wrong), -2);
        }
        b.is("delivered", x.count(4), 0);
        b.is("deliver(0)", x.deliver(0), 1);
        b.is("SEEK to both counts once", x.count(4), 1);
    }

    private static void wholeWay(Bench b) {
        FieldRelay x = Rig.prepared();
        x.plug(0, 2, 0);
        x.open(0);
        step(b, x, 1, Rig.FOUND, 0, 0, Rig.CONTROLLER, 3);
        step(b, x, 1, Rig.CONNECT, 1, 0, 0, 1, 2, 1);
        step(b, x, 1, Rig.ACCEPT, 1, 0, Rig.CONTROLLER);
        step(b, x, 1, Rig.WRITE, 1, 0, 0, 77);
        step(b, x, 1, Rig.WRITTEN, 1, 0, Rig.CONTROLLER);
        step(b, x, 1, Rig.WRITE, 1, 2, 0, 5);
        step(b, x, 1, Rig.WRITTEN, 1, 2, Rig.CONTROLLER);
        b.is("writing still", x.relation(0, 0), Rig.WRITING);
        step(b, x, 1, Rig.END, 1, 0, 0);
        b.is("ending", x.relation(0, 0), Rig.ENDING);
        step(b, x, 2, Rig.ENDED, 1, 0, Rig.CONTROLLER);
        b.frame("then READY", x, 1, Rig.READY, 1, 0, Rig.CONTROLLER);
        step(b, x, 1, Rig.READY, 1, 0, Rig.CONTROLLER);
        b.is("waiting", x.relation(0, 0), Rig.WAITING);
        step(b, x, 1, Rig.GO, 1, 0, 0);
        b.is("data begins", x.relation(0, 0), Rig.R_DATA);
        b.is("the device waits for GO", x.device(0, 0), Rig.READYING);
        b.is("GO", x.deliver(0), 0);
        b.device("data", x, 0, Rig.D_DATA, 1, 0, 0, 0, 77, -1, 5, 0);
        b.is("all were delivered", x.count(4), 12);
        b.is("all were sent", x.count(1), 12);
    }

    private static void step(Bench b, FieldRelay x, int left, int... frame) {
        b.is("frames left", x.deliver(0), left);
        b.frame("brought about", x, 0, frame);
    }

    private static void anyFrameFirst(Bench b) {
        FieldRelay x = Rig.prepared();
        x.open(0);
        x.open(1);
        b.is("the later one first", x.deliver(1), 2);
        b.frame("the other one is first still", x, 0, Rig.SEEK, 0, 3, Rig.BOTH);
        b.frame("device 1 answered", x, 1, Rig.FOUND, 0, 1, Rig.CONTROLLER, 4);
        b.is("no third", x.deliver(2), -2);
    }

    private static void goneBeforeWhatItBringsAbout(Bench b) {
        FieldRelay x = Rig.prepared();
        x.open(0);
        Rig.fill(x, 16);
        b.is("there is room for FOUND", x.deliver(3), 16);
        b.frame("behind all others", x, 15, Rig.FOUND, 0, 0, Rig.CONTROLLER, 3);
        b.is("none was lost", x.count(2), 0);
        x.name(1, 3);
        b.is("two answers, one is lost", x.deliver(0), 16);
        b.is("for want of room", x.count(2), 1);
        b.frame("that of device 0 came first", x, 15, Rig.FOUND, 0, 0, Rig.CONTROLLER, 3);
    }

    /** Each frame of a whole way comes once more in a later state: nothing changes, few are answered. */
    private static void framesThatDoNotGoWithTheState(Bench b) {
        for (int state = Rig.CONNECTING; state <= Rig.R_DATA; state++) {
            comesLate(b, Rig.SEEK, state, 1);
            comesLate(b, Rig.FOUND, state, 0);
        }
        for (int state = Rig.WRITING; state <= Rig.R_DATA; state++) {
            comesLate(b, Rig.CONNECT, state, state <= Rig.ENDING ? 1 : 0);
            comesLate(b, Rig.ACCEPT, state, 0);
        }
        for (int state = Rig.ENDING; state <= Rig.R_DATA; state++) {
            comesLate(b, Rig.WRITE, state, state == Rig.ENDING ? 1 : 0);
            comesLate(b, Rig.WRITTEN, state, 0);
        }
        for (int state = Rig.WAITING; state <= Rig.R_DATA; state++) {
            comesLate(b, Rig.END, state, 1);
            comesLate(b, Rig.ENDED, state, 0);
        }
        comesLate(b, Rig.READY, Rig.R_DATA, 1);
        connectInDataIsPassedOver(b);
        goInDataIsPassedOver(b);
    }

    private static void comesLate(Bench b, int type, int state, int answers) {
        FieldRelay x = withLate(type, state);
        String what = "type " + type + " late in state " + state;
        b.wire(what, x, type);
        int device = x.device(0, 0);
        x.tick(1);
        int ticks = x.relation(0, 5);
        int sent = x.count(1);
        x.deliver(0);
        b.relation(what, x, 0, state, 1, 0);
        b.is(what + ": ticks", x.relation(0, 5), ticks);
        b.is(what + ": device", x.device(0, 0), device);
        b.is(what + ": answers", x.count(1) - sent, answers);
    }

    /** Relation 0 brought to a state, with a copy of one frame of the way on the wire and nothing else. */
    private static FieldRelay withLate(int type, int state) {
        FieldRelay x = Rig.prepared();
        x.open(0);
        boolean kept = false;
        for (int i = 0; i < 20 && x.relation(0, 0) != state; i++) {
            if (!kept && x.frame(0, 0) == type) {
                x.repeat(0);
                x.deliver(0);
                kept = true;
            } else {
                x.deliver(kept && x.frame(0, 0) == type ? 1 : 0);
            }
        }
        while (x.count(3) > 1) {
            x.lose(x.frame(0, 0) == type ? 1 : 0);
        }
        return x;
    }

    private static void goInDataIsPassedOver(Bench b) {
        FieldRelay x = Rig.brought(0, Rig.R_DATA);
        x.repeat(0);
        x.deliver(0);
        x.tick(1);
        b.is("GO once more is not answered", x.deliver(0), 2);
        b.is("the watch goes on", x.device(0, 8), 1);
        x.tick(1);
        b.is("the counter goes on", x.frame(3, 2), 1);
        FieldRelay y = Rig.brought(0, Rig.WAITING);
        y.repeat(0);
        y.deliver(0);
        y.deliver(1);
        y.tick(1);
        b.is("READY once more in DATA brings GO", y.deliver(0), 3);
        b.frame("GO", y, 2, Rig.GO, 1, 0, 0);
        b.is("the watch goes on", y.relation(0, 5), 1);
        y.tick(1);
        b.is("the counter goes on", y.frame(3, 2), 1);
    }

    private static void connectInDataIsPassedOver(Bench b) {
        FieldRelay x = Rig.brought(0, Rig.CONNECTING);
        x.repeat(0);
        for (int i = 0; i < 20 && x.count(3) > 1; i++) {
            x.deliver(x.frame(0, 0) == Rig.CONNECT && x.device(0, 0) != Rig.IDLE ? 1 : 0);
        }
        b.is("in DATA", x.device(0, 0), Rig.D_DATA);
        b.frame("CONNECT once more", x, 0, Rig.CONNECT, 1, 0, 0, 1, 2, 1);
        b.is("is not answered", x.deliver(0), 0);
        b.device("and changes nothing", x, 0, Rig.D_DATA, 1, 4, 0, 0, 77);
    }

    private static void framesOfOtherSessions(Bench b) {
        for (int type : new int[] {Rig.WRITE, Rig.END, Rig.ABORT}) {
            FieldRelay x = oldFrame(type);
            int device = x.device(0, 0);
            int sent = x.count(1);
            Rig.deliverType(x, type);
            b.is("old type " + type + " leaves the device", x.device(0, 0), device);
            b.is("old type " + type + " leaves the session", x.device(0, 1), 2);
            b.is("old type " + type + " is not answered", x.count(1), sent);
            b.is("old type " + type + " writes nothing", x.device(0, 5), -1);
        }
        FieldRelay x = Rig.inData();
        x.tick(1);
        x.tick(1);
        x.close(0);
        Rig.deliverType(x, Rig.ABORT);
        x.open(0);
        for (int i = 0; i < 40 && x.relation(0, 0) != Rig.R_DATA; i++) {
            x.deliver(x.count(3) - 1 - (x.frame(x.count(3) - 2, 0) == Rig.ENDED ? 1 : 0));
        }
        b.is("a new session is in DATA", x.relation(0, 1), 2);
        Rig.deliverType(x, Rig.GO);
        b.is("so is the device", x.device(0, 0), Rig.D_DATA);
        b.wire("old data is there", x, Rig.OUTPUT, Rig.INPUT, Rig.OUTPUT, Rig.INPUT);
        Rig.drain(x);
        b.data("old inputs are not taken", x, 1, 0, 0, 0, 0, 0, 0, 0);
        b.data("old outputs are not taken", x, 0, 0, 0, 0, 0, 0, 0, 0);
        b.is("not good", x.relation(0, 4), 0);
    }

    /** Device 0 is CONNECTED in session 2 while a frame of session 1 is on the wire. */
    private static FieldRelay oldFrame(int type) {
        FieldRelay x = Rig.brought(0, type == Rig.END ? Rig.ENDING : Rig.WRITING);
        x.close(0);
        x.repeat(1);
        Rig.deliverType(x, Rig.ABORT);
        if (type != Rig.ABORT) {
            Rig.deliverType(x, Rig.ABORT);
        }
        x.open(0);
        Rig.deliverType(x, Rig.SEEK);
        Rig.deliverType(x, Rig.FOUND);
        Rig.deliverType(x, Rig.CONNECT);
        return x;
    }

    private static void connectAnew(Bench b) {
        FieldRelay x = Rig.brought(0, Rig.CONNECTING);
        x.repeat(0);
        x.deliver(0);
        x.deliver(1);
        x.deliver(1);
        b.is("a parameter is written", x.device(0, 5), 77);
        x.tick(1);
        x.plug(0, 1, 5);
        b.is("nothing is compared by plug", x.device(0, 2), 4);
        b.is("CONNECT once more", x.frame(0, 0), Rig.CONNECT);
        x.deliver(0);
        b.device("compared anew, none written", x, 0, Rig.CONNECTED, 1, 6, 0, 0, -1, -1, -1, 0);
        b.frame("ACCEPT", x, x.count(3) - 1, Rig.ACCEPT, 1, 6, Rig.CONTROLLER);
    }

    private static void refusedByABusyDevice(Bench b) {
        for (int state = Rig.WRITING; state <= Rig.R_DATA; state++) {
            FieldRelay x = Rig.brought(0, state);
            Rig.loseAll(x);
            x.target(1, 3);
            x.open(1);
            x.deliver(0);
            x.deliver(0);
            int device = x.device(0, 0);
            b.frame("CONNECT of another", x, 0, Rig.CONNECT, 2, 0, 0, 2);
            x.deliver(0);
            b.frame("is refused", x, 0, Rig.REFUSE, 2, 0, Rig.CONTROLLER);
            b.device("nothing changes", x, 0, device, 1);
            b.is("closed by it", x.deliver(0), 0);
            b.relation("closed", x, 1, Rig.CLOSED, 0, -1);
            b.is("the first one stays", x.relation(0, 0), state);
        }
    }

    private static void foundForBoth(Bench b) {
        FieldRelay x = Rig.prepared();
        x.target(1, 3);
        x.open(1);
        x.open(0);
        x.lose(0);
        x.deliver(0);
        b.is("one FOUND for both", x.deliver(0), 2);
        b.frame("relation 0 first", x, 0, Rig.CONNECT, 2, 0, 0, 1, 2, 1);
        b.frame("then relation 1", x, 1, Rig.CONNECT, 1, 0, 0, 2);
        b.relation("relation 0", x, 0, Rig.CONNECTING, 2, 0);
        b.relation("relation 1", x, 1, Rig.CONNECTING, 1, 0);
        FieldRelay y = Rig.prepared();
        y.name(1, 3);
        y.open(0);
        y.deliver(0);
        y.deliver(1);
        b.relation("the FOUND that comes first", y, 0, Rig.CONNECTING, 1, 1);
        y.deliver(0);
        b.relation("the other is late", y, 0, Rig.CONNECTING, 1, 1);
        b.frame("CONNECT to device 1", y, 0, Rig.CONNECT, 1, 0, 1, 1, 2, 1);
    }

    private static void foundUnderAnOldName(Bench b) {
        FieldRelay x = Rig.prepared();
        x.open(0);
        x.open(1);
        x.lose(1);
        x.deliver(0);
        x.name(0, 9);
        x.deliver(0);
        b.is("the name of when it was sent", x.relation(0, 0), Rig.CONNECTING);
        b.is("not the one that relation 1 looks for", x.relation(1, 0), Rig.SEEKING);
    }

    private static void endWithoutParameter(Bench b) {
        FieldRelay x = Rig.brought(0, Rig.CONNECTING);
        x.repeat(0);
        x.deliver(0);
        x.deliver(1);
        x.deliver(1);
        x.deliver(1);
        b.wire("CONNECT is late", x, Rig.CONNECT, Rig.END);
        x.deliver(0);
        x.deliver(0);
        b.wire("END lacks a parameter", x, Rig.ACCEPT, Rig.ABORT);
        b.frame("ABORT", x, 1, Rig.ABORT, 1, 0, Rig.CONTROLLER);
        b.device("idle", x, 0, Rig.IDLE, 0, 0, 0, 0, -1, -1, -1, 0);
        x.deliver(1);
        b.relation("closed", x, 0, Rig.CLOSED, 0, -1);
    }

    private static void onlyNewerDataIsTaken(Bench b) {
        FieldRelay x = Rig.inData();
        x.tick(1);
        x.give(0, 0, 0, 111);
        x.sense(0, 0, 0, 121);
        x.tick(1);
        b.wire("two of each", x, Rig.OUTPUT, Rig.INPUT, Rig.OUTPUT, Rig.INPUT);
        b.is("counter 1", x.frame(2, 2), 1);
        b.is("counter 1", x.frame(3, 2), 1);
        x.deliver(2);
        x.deliver(2);
        b.is("the newer output", x.data(0, 0, 0, 0), 111);
        b.is("the newer input", x.data(1, 0, 0, 0), 121);
        x.tick(1);
        x.deliver(0);
        x.deliver(0);
        b.is("not the older output", x.data(0, 0, 0, 0), 111);
        b.is("not the older input", x.data(1, 0, 0, 0), 121);
        b.is("the watch goes on", x.device(0, 8), 1);
        b.is("the watch goes on", x.relation(0, 5), 1);
        x.repeat(0);
        x.repeat(1);
        x.deliver(0);
        x.deliver(0);
        x.tick(1);
        x.deliver(0);
        x.deliver(0);
        b.is("the same output is not newer", x.device(0, 8), 1);
        b.is("the same input is not newer", x.relation(0, 5), 1);
    }

    /** Both relations answer one FOUND on a full wire: the second must still read it right. */
    private static void aLostFrameDoesNotHarmTheNextReader(Bench b) {
        FieldRelay x = Rig.prepared();
        x.target(1, 3);
        x.open(0);
        x.deliver(0);
        x.open(1);
        while (x.count(3) < 16) {
            x.repeat(1);
        }
        x.deliver(0);
        b.is("one CONNECT is lost", x.count(2), 1);
        b.relation("relation 0", x, 0, Rig.CONNECTING, 1, 0);
        b.relation("relation 1", x, 1, Rig.CONNECTING, 2, 0);
    }
}
