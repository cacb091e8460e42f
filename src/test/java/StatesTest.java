import java.util.Arrays;

/** FRAMES with another SESSION change nothing; so do those that do not go with the STATE. */
public final class StatesTest {
    private static final int[] TO_DEVICE = {Rig.CONNECT, Rig.WRITE, Rig.END, Rig.GO, Rig.OUTPUT, Rig.TAKEN, Rig.ABORT};
    private static final int[] TO_CONTROLLER =
            {Rig.FOUND, Rig.ACCEPT, Rig.WRITTEN, Rig.ENDED, Rig.READY, Rig.INPUT, Rig.ALARM};

    private final Bench b;
    private final FieldRelay x = new FieldRelay();
    private int held;

    private StatesTest(Bench b) {
        this.b = b;
    }

    public static void main(String[] args) {
        Bench b = new Bench("states");
        for (int state = Rig.IDLE; state <= Rig.D_DATA; state++) {
            for (int type : TO_DEVICE) {
                new StatesTest(b).toTheDevice(state, type, 1);
                if (state != Rig.IDLE) {
                    new StatesTest(b).toTheDevice(state, type, 2);
                }
            }
        }
        for (int state = Rig.CLOSED; state <= Rig.R_DATA; state++) {
            for (int type : TO_CONTROLLER) {
                new StatesTest(b).ofTheSessionBefore(state, type);
            }
            new StatesTest(b).abortOfTheSessionBefore(state);
            if (state >= Rig.CONNECTING) {
                lateRefuse(b, state);
            }
        }
        abortOfItsSession(b, Rig.WAITING);
        abortOfItsSession(b, Rig.R_DATA);
        readyBeforeEnded(b);
        readyInData(b);
        forTheRelationWithThatSession(b);
        b.finish();
    }

    /** One slot is expected, and its parameter; one frame of each of these types of SESSION 1 stays on the wire. */
    private void hold(int... types) {
        x.kind(0, 1, 1, true);
        x.name(0, 1);
        x.target(0, 1);
        x.plug(0, 0, 0);
        x.expect(0, 0, 0, 70);
        x.give(0, 0, 0, 11);
        x.sense(0, 0, 0, 21);
        x.open(0);
        deliverAndHold(types);
        x.plug(0, 0, -1);
        x.tick(1);
        deliverAndHold(types);
        x.close(0);
        deliverAndHold(types);
        x.plug(0, 0, 0);
        for (int i = 0; i < types.length; i++) {
            b.yes("held " + types[i], Rig.find(x, types[i]) >= 0);
        }
        b.is("held", x.count(3), types.length);
    }

    private void deliverAndHold(int... types) {
        for (int i = 0; i < 40 && x.count(3) > held; i++) {
            int type = x.frame(held, 0);
            if (Arrays.stream(types).anyMatch(t -> t == type) && Rig.find(x, type) == held) {
                // An OUTPUT that was taken would not be newer when it comes again.
                if (type != Rig.OUTPUT) {
                    x.repeat(held);
                }
                held++;
            } else {
                x.deliver(held);
            }
        }
    }

    /** Delivers a copy of the frame that is held, so that it can come again. */
    private void come(int type) {
        x.repeat(Rig.find(x, type));
        x.deliver(x.count(3) - 1);
    }

    private void loseAnswers() {
        while (x.count(3) > held) {
            x.lose(held);
        }
    }

    /** The device alone, by the frames of session 1 that are held. */
    private void bringDevice(int state) {
        int[] way = {Rig.CONNECT, Rig.WRITE, Rig.END, Rig.GO};
        int[] steps = {0, 1, 3, 4};
        for (int i = 0; i < steps[state]; i++) {
            come(way[i]);
        }
        loseAnswers();
    }

    /** The device with its relation in session 2. */
    private void bringDeviceAnew(int state) {
        x.open(0);
        for (int i = 0; i < 20 && x.device(0, 0) != state; i++) {
            x.deliver(held);
        }
        loseAnswers();
    }

    private int[] device() {
        int[] all = new int[12];
        for (int what = 0; what <= 8; what++) {
            all[what] = x.device(0, what);
        }
        all[9] = x.data(0, 0, 0, 0);
        all[10] = x.data(0, 0, 0, 1);
        all[11] = x.count(1);
        return all;
    }

    private void toTheDevice(int state, int type, int session) {
        hold(TO_DEVICE);
        if (session == 1) {
            bringDevice(state);
        } else {
            bringDeviceAnew(state);
        }
        x.tick(1);
        loseAnswers();
        String what = "type " + type + ", device in state " + state + " of session " + session;
        b.is(what, x.device(0, 0), state);
        int[] before = device();
        come(type);
        if (session == 2 && type == Rig.CONNECT) {
            b.frame(what, x, x.count(3) - 1, Rig.REFUSE, 1, 0, Rig.CONTROLLER);
            before[11]++;
        }
        if (session == 2 || !goesWith(state, type)) {
            b.yes(what + " changes nothing", Arrays.equals(before, device()));
        } else {
            b.no(what + " changes something", Arrays.equals(before, device()));
            b.is(what, x.device(0, 0), stateAfter(state, type));
        }
    }

    private static boolean goesWith(int state, int type) {
        switch (type) {
            case Rig.CONNECT: return state <= Rig.CONNECTED;
            case Rig.WRITE: return state == Rig.CONNECTED;
            case Rig.END: return state == Rig.CONNECTED || state == Rig.READYING;
            case Rig.GO: return state == Rig.READYING;
            case Rig.OUTPUT: return state == Rig.D_DATA;
            case Rig.ABORT: return state != Rig.IDLE;
            default: return false;
        }
    }

    private static int stateAfter(int state, int type) {
        switch (type) {
            case Rig.CONNECT: return Rig.CONNECTED;
            // No parameter was written yet.
            case Rig.END: return state == Rig.CONNECTED ? Rig.IDLE : state;
            case Rig.GO: return Rig.D_DATA;
            case Rig.ABORT: return Rig.IDLE;
            default: return state;
        }
    }

    private int[] relation() {
        int[] all = new int[12];
        for (int what = 0; what <= 6; what++) {
            all[what] = x.relation(0, what);
        }
        all[7] = x.data(1, 0, 0, 0);
        all[8] = x.count(1);
        all[9] = x.count(5);
        all[10] = x.count(6);
        all[11] = x.device(0, 0);
        return all;
    }

    private void bringRelation(int state) {
        if (state == Rig.CLOSED) {
            return;
        }
        x.open(0);
        for (int i = 0; i < 20 && x.relation(0, 0) != state; i++) {
            x.deliver(held);
        }
        loseAnswers();
        x.tick(1);
        loseAnswers();
    }

    /** FOUND has no session, and goes with SEEKING whenever it was sent. */
    private void ofTheSessionBefore(int state, int type) {
        hold(TO_CONTROLLER);
        bringRelation(state);
        String what = "type " + type + " of the session before, relation in state " + state;
        b.is(what, x.relation(0, 0), state);
        int[] before = relation();
        come(type);
        if (type == Rig.FOUND && state == Rig.SEEKING) {
            b.is("FOUND", x.relation(0, 0), Rig.CONNECTING);
        } else {
            b.yes(what + " changes nothing", Arrays.equals(before, relation()));
        }
    }

    /** The device's ABORT of session 1, sent when its watch ended, comes in session 2. */
    private void abortOfTheSessionBefore(int state) {
        hold(Rig.CONNECT, Rig.WRITE, Rig.END, Rig.GO);
        bringDevice(Rig.D_DATA);
        x.tick(4);
        int abort = x.count(3) - 1;
        b.frame("ABORT", x, abort, Rig.ABORT, 1, 0, Rig.CONTROLLER);
        Rig.loseAllBut(x, abort);
        held = 1;
        bringRelation(state);
        int[] before = relation();
        x.deliver(0);
        b.yes("ABORT of the session before, in state " + state, Arrays.equals(before, relation()));
    }

    /** REFUSE, CONNECTING: CLOSED. In other states it comes too late. */
    private static void lateRefuse(Bench b, int state) {
        FieldRelay x = Rig.alike(false);
        x.target(1, 3);
        Rig.bring(x, 0, Rig.WRITING);
        x.lose(0);
        Rig.bring(x, 1, Rig.CONNECTING);
        x.repeat(0);
        x.deliver(0);
        b.wire("refused while the device is with relation 0", x, Rig.CONNECT, Rig.REFUSE);
        x.close(0);
        x.deliver(2);
        x.repeat(0);
        x.lose(0);
        for (int i = 0; i < 20 && x.relation(1, 0) != state; i++) {
            x.deliver(1);
        }
        b.is("connected by the other CONNECT", x.relation(1, 0), state);
        int sent = x.count(1);
        b.is("REFUSE", x.frame(0, 0), Rig.REFUSE);
        x.deliver(0);
        b.is("REFUSE in state " + state, x.relation(1, 0), state == Rig.CONNECTING ? Rig.CLOSED : state);
        b.is("nothing is sent", x.count(1), sent);
    }

    /** ABORT: CLOSED. In WAITING it comes when READY was sent in vain, in DATA when the device's watch ended. */
    private static void abortOfItsSession(Bench b, int state) {
        FieldRelay x = Rig.alike(false);
        Rig.bring(x, 0, Rig.ENDING);
        x.deliver(0);
        x.tick(1);
        if (state == Rig.WAITING) {
            x.deliver(0);
            x.tick(8);
            x.tick(3);
        } else {
            Rig.drain(x);
            x.tick(3);
            Rig.deliverType(x, Rig.INPUT);
            x.tick(1);
        }
        b.is("the relation before", x.relation(0, 0), state);
        b.is("the device before", x.device(0, 0), Rig.IDLE);
        int sent = x.count(1);
        x.deliver(Rig.find(x, Rig.ABORT));
        b.relation("ABORT in state " + state, x, 0, Rig.CLOSED, 0, -1);
        b.data("INPUTS become 0", x, 1, 0, 0, 0, 0, 0, 0, 0);
        b.is("nothing is sent", x.count(1), sent);
    }

    /** READY, WAITING: one that comes before ENDED is passed over; the next one is not. */
    private static void readyBeforeEnded(Bench b) {
        FieldRelay x = Rig.alike(false);
        Rig.bring(x, 0, Rig.ENDING);
        x.deliver(0);
        b.wire("both", x, Rig.ENDED, Rig.READY);
        b.is("READY first", x.deliver(1), 1);
        b.is("ENDING still", x.relation(0, 0), Rig.ENDING);
        b.is("ENDED", x.deliver(0), 0);
        b.is("WAITING", x.relation(0, 0), Rig.WAITING);
        x.tick(3);
        b.wire("READY again", x, Rig.READY);
        Rig.drain(x);
        b.is("DATA", x.relation(0, 0), Rig.R_DATA);
        b.is("DATA", x.device(0, 0), Rig.D_DATA);
    }

    /** READY, in DATA: GO is sent again, to its own device. */
    private static void readyInData(Bench b) {
        for (int r = 0; r < 2; r++) {
            FieldRelay x = Rig.alike(true);
            Rig.bring(x, r, Rig.WAITING);
            x.repeat(0);
            for (int n = 0; n < 2; n++) {
                x.deliver(0);
                b.frame("GO", x, 1, Rig.GO, 1, 0, 1 - r);
                b.is("DATA", x.relation(r, 0), Rig.R_DATA);
                x.lose(1);
                x.repeat(0);
            }
        }
    }

    /** FRAMES that come to the CONTROLLER with a SESSION are for the RELATION with that SESSION. */
    private static void forTheRelationWithThatSession(Bench b) {
        FieldRelay x = Rig.alike(true);
        x.sense(0, 0, 0, 50);
        x.sense(1, 0, 0, 51);
        Rig.connect(x, 0);
        Rig.connect(x, 1);
        x.tick(3);
        b.is("INPUT of device 0", x.frame(2, 1), 2);
        x.deliver(2);
        b.is("is relation 1's", x.data(1, 1, 0, 0), 50);
        b.is("not relation 0's", x.data(1, 0, 0, 0), 0);
        b.is("its watch", x.relation(1, 5), 0);
        b.is("not the other's", x.relation(0, 5), 3);
        x.tick(1);
        b.is("closed", x.relation(0, 0), Rig.CLOSED);
        b.is("in DATA", x.relation(1, 0), Rig.R_DATA);
    }
}
