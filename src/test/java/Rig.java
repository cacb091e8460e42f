/** Objects brought to where a test begins, and what is done with them again and again. */
final class Rig {
    static final int SEEK = 1, FOUND = 2, CONNECT = 3, ACCEPT = 4, REFUSE = 5, WRITE = 6, WRITTEN = 7;
    static final int END = 8, ENDED = 9, READY = 10, GO = 11, OUTPUT = 12, INPUT = 13;
    static final int ALARM = 14, TAKEN = 15, ABORT = 16;
    static final int CLOSED = 0, SEEKING = 1, CONNECTING = 2, WRITING = 3, ENDING = 4, WAITING = 5, R_DATA = 6;
    static final int IDLE = 0, CONNECTED = 1, READYING = 2, D_DATA = 3;
    static final int CONTROLLER = 2, BOTH = 3;
    static final int[] WRONG_PAIR = {-1, 2, Integer.MIN_VALUE, Integer.MAX_VALUE};

    private Rig() {
    }

    /**
     * Relation 0 looks for device 0 (name 3) and relation 1 for device 1 (name 4). In device 0 slots 0 and 1 are as
     * expected, slot 2 is not; in device 1 slot 0 is as expected, the others are neither expected nor plugged.
     */
    static FieldRelay prepared() {
        FieldRelay x = new FieldRelay();
        x.kind(0, 1, 2, true);
        x.kind(1, 2, 1, false);
        x.name(0, 3);
        x.name(1, 4);
        x.plug(0, 0, 0);
        x.plug(0, 1, 1);
        x.plug(0, 2, 1);
        x.plug(1, 0, 1);
        x.target(0, 3);
        x.target(1, 4);
        x.expect(0, 0, 0, 77);
        x.expect(0, 1, 1, 0);
        x.expect(0, 2, 0, 5);
        x.expect(1, 0, 1, 0);
        for (int p = 0; p < 6; p++) {
            x.give(0, p / 2, p % 2, 11 + p);
            x.give(1, p / 2, p % 2, 31 + p);
            x.sense(0, p / 2, p % 2, 21 + p);
            x.sense(1, p / 2, p % 2, 41 + p);
        }
        return x;
    }

    /**
     * Both relations expect a module with a parameter in each slot, and both devices have them. Relation r is with
     * device r, or, when crossed, with the other one.
     */
    static FieldRelay alike(boolean crossed) {
        FieldRelay x = new FieldRelay();
        x.kind(0, 2, 2, true);
        for (int n = 0; n < 2; n++) {
            x.name(n, 3 + n);
            x.target(n, crossed ? 4 - n : 3 + n);
            for (int slot = 0; slot < 3; slot++) {
                x.plug(n, slot, 0);
                x.expect(n, slot, 0, 70 + slot);
            }
        }
        return x;
    }

    /** Relation r opened and brought to this state by frames alone; the wire then holds the request or what came. */
    static FieldRelay brought(int r, int state) {
        FieldRelay x = prepared();
        bring(x, r, state);
        return x;
    }

    static void bring(FieldRelay x, int r, int state) {
        x.open(r);
        for (int i = 0; i < 20 && x.relation(r, 0) != state; i++) {
            x.deliver(0);
        }
    }

    /** Relation 0 and device 0 in DATA, with an empty wire. */
    static FieldRelay inData() {
        FieldRelay x = prepared();
        connect(x, 0);
        return x;
    }

    /** Relation 0 and device 0 in DATA; CONNECT, END and GO of their session are on the wire, to come once more. */
    static FieldRelay inDataWithItsWayHeld() {
        FieldRelay x = new FieldRelay();
        x.name(0, 1);
        x.target(0, 1);
        x.plug(0, 0, 0);
        x.expect(0, 0, 0, 0);
        bring(x, 0, CONNECTING);
        x.repeat(0);
        x.deliver(1);
        x.deliver(1);
        x.repeat(1);
        x.deliver(2);
        x.deliver(2);
        x.deliver(2);
        x.repeat(2);
        x.deliver(3);
        return x;
    }

    static void connect(FieldRelay x, int r) {
        x.open(r);
        drain(x);
    }

    /** Delivers all there is, and what comes of it. */
    static void drain(FieldRelay x) {
        for (int i = 0; i < 100 && x.count(3) > 0; i++) {
            x.deliver(0);
        }
    }

    static void loseAll(FieldRelay x) {
        for (int i = 0; i < 16 && x.count(3) > 0; i++) {
            x.lose(0);
        }
    }

    static void loseAllBut(FieldRelay x, int kept) {
        for (int k = x.count(3) - 1; k >= 0; k--) {
            if (k != kept) {
                x.lose(k);
            }
        }
    }

    /** A tick whose frames all arrive. */
    static void cycle(FieldRelay x) {
        x.tick(1);
        drain(x);
    }

    /** Delivers the first frame of this type, or nothing. */
    static void deliverType(FieldRelay x, int type) {
        int k = find(x, type);
        if (k >= 0) {
            x.deliver(k);
        }
    }

    static int find(FieldRelay x, int type) {
        for (int k = 0; k < 16; k++) {
            if (x.frame(k, 0) == type) {
                return k;
            }
        }
        return -1;
    }

    /** Fills the wire to so many frames with copies of its first one. */
    static void fill(FieldRelay x, int size) {
        for (int i = 0; i < 16 && x.count(3) < size; i++) {
            x.repeat(0);
        }
    }
}
