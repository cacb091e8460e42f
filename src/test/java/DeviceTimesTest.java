/** The TICKS that a DEVICE counts: CONNECTED, READYING, and WATCH. */
public final class DeviceTimesTest {
    public static void main(String[] args) {
        Bench b = new Bench("times of devices");
        for (int d = 0; d < 2; d++) {
            connectedFor16(b, d);
            connectAnewAtTheLastMoment(b, d);
            writesAtTheLastMoment(b, d);
            endAtTheLastMoment(b, d);
            otherFramesDoNotHelp(b, d);
            readySentAgainThreeTimes(b, d);
            endAgainLeavesTheTicks(b, d);
            goAtTheLastMoment(b, d);
            watchFromTheBeginning(b, d);
            watchFromTheLastOutput(b, d);
            watchAndOldOutputs(b, d);
        }
        idleCountsNothing(b);
        b.finish();
    }

    /** Relation 1 - d is with device d, and is brought to this state. */
    private static FieldRelay brought(int d, int state) {
        FieldRelay x = Rig.alike(true);
        Rig.bring(x, 1 - d, state);
        return x;
    }

    /** Device d is CONNECTED, its relation is CLOSED and can disturb it no more; one such frame is on the wire. */
    private static FieldRelay connectedAlone(int d, int kept) {
        FieldRelay x = brought(d, Rig.CONNECTING);
        x.repeat(0);
        x.deliver(0);
        for (int i = 0; i < 7 && Rig.find(x, kept) < 0; i++) {
            x.deliver(1);
        }
        x.close(1 - d);
        for (int k = x.count(3) - 1; k >= 0; k--) {
            if (x.frame(k, 0) != kept) {
                x.lose(k);
            }
        }
        return x;
    }

    private static void isIdle(Bench b, String what, FieldRelay x, int d) {
        b.device(what, x, d, Rig.IDLE, 0, 0, 0, 0, -1, -1, -1, 0);
    }

    private static void counted(Bench b, String what, FieldRelay x, int d, int state, int ticks) {
        b.is(what + ": state", x.device(d, 0), state);
        b.is(what + ": ticks", x.device(d, 8), ticks);
    }

    private static void tick15(FieldRelay x) {
        x.tick(8);
        x.tick(7);
    }

    /** CONNECTED for 16 TICKS behind CONNECT and the latest WRITE: IDLE. */
    private static void connectedFor16(Bench b, int d) {
        FieldRelay x = connectedAlone(d, Rig.CONNECT);
        x.lose(0);
        int sent = x.count(1);
        for (int t = 0; t < 16; t++) {
            counted(b, "tick " + t, x, d, Rig.CONNECTED, t);
            b.is("its session", x.device(d, 1), 1);
            x.tick(1);
        }
        isIdle(b, "tick 16", x, d);
        b.is("nothing is sent", x.count(1), sent);
        b.is("not by WATCH", x.count(7), 0);
    }

    private static void connectAnewAtTheLastMoment(Bench b, int d) {
        FieldRelay x = connectedAlone(d, Rig.CONNECT);
        b.wire("CONNECT once more", x, Rig.CONNECT);
        tick15(x);
        counted(b, "15 ticks", x, d, Rig.CONNECTED, 15);
        x.deliver(0);
        counted(b, "anew", x, d, Rig.CONNECTED, 0);
        tick15(x);
        counted(b, "15 ticks", x, d, Rig.CONNECTED, 15);
        x.tick(1);
        isIdle(b, "16 ticks", x, d);
    }

    private static void writesAtTheLastMoment(Bench b, int d) {
        FieldRelay x = connectedAlone(d, Rig.WRITE);
        b.wire("WRITE", x, Rig.WRITE);
        x.repeat(0);
        x.repeat(0);
        for (int n = 0; n < 2; n++) {
            tick15(x);
            counted(b, "15 ticks", x, d, Rig.CONNECTED, 15);
            x.deliver(0);
            counted(b, "WRITE", x, d, Rig.CONNECTED, 0);
            b.is("written", x.device(d, 5), 70);
        }
        tick15(x);
        counted(b, "15 ticks", x, d, Rig.CONNECTED, 15);
        x.tick(1);
        isIdle(b, "16 ticks", x, d);
        int sent = x.count(1);
        x.deliver(0);
        isIdle(b, "WRITE is late", x, d);
        b.is("not answered", x.count(1), sent);
    }

    private static void endAtTheLastMoment(Bench b, int d) {
        for (int ticks = 15; ticks <= 16; ticks++) {
            FieldRelay x = connectedAlone(d, Rig.END);
            b.wire("END", x, Rig.END);
            tick15(x);
            if (ticks == 16) {
                x.tick(1);
            }
            x.deliver(0);
            if (ticks == 15) {
                counted(b, "END behind 15 ticks", x, d, Rig.READYING, 0);
                b.wire("answered", x, Rig.ENDED, Rig.READY);
            } else {
                isIdle(b, "END behind 16 ticks", x, d);
                b.wire("not answered", x);
            }
        }
    }

    private static void otherFramesDoNotHelp(Bench b, int d) {
        FieldRelay x = connectedAlone(d, Rig.CONNECT);
        x.lose(0);
        tick15(x);
        x.open(1 - d);
        x.deliver(0);
        counted(b, "SEEK", x, d, Rig.CONNECTED, 15);
        x.deliver(0);
        x.deliver(0);
        b.frame("CONNECT of another session", x, 0, Rig.REFUSE, 2, 0, Rig.CONTROLLER);
        counted(b, "CONNECT of another session", x, d, Rig.CONNECTED, 15);
        x.tick(1);
        isIdle(b, "16 ticks", x, d);
    }

    /** Device d is READYING, its relation is CLOSED, and nothing is on the wire but perhaps END. */
    private static FieldRelay readyingAlone(int d, boolean endOnceMore) {
        FieldRelay x = connectedAlone(d, Rig.END);
        if (endOnceMore) {
            x.repeat(0);
        }
        x.deliver(0);
        Rig.loseAllBut(x, endOnceMore ? 0 : -1);
        return x;
    }

    /** READY is sent again each 3 TICKS while READYING, 3 times; 3 TICKS behind that ABORT is sent, it is IDLE. */
    private static void readySentAgainThreeTimes(Bench b, int d) {
        FieldRelay x = readyingAlone(d, false);
        for (int t = 0; t < 12; t++) {
            counted(b, "tick " + t, x, d, Rig.READYING, t % 3);
            b.is("READY again", x.count(3), t / 3);
            x.tick(1);
        }
        b.wire("tick 12", x, Rig.READY, Rig.READY, Rig.READY, Rig.ABORT);
        b.frame("READY", x, 2, Rig.READY, 1, 0, Rig.CONTROLLER);
        b.frame("ABORT", x, 3, Rig.ABORT, 1, 0, Rig.CONTROLLER);
        isIdle(b, "tick 12", x, d);
        b.is("not by WATCH", x.count(7), 0);
    }

    /** END, READYING: ENDED is sent. */
    private static void endAgainLeavesTheTicks(Bench b, int d) {
        FieldRelay x = readyingAlone(d, true);
        x.tick(8);
        x.tick(3);
        counted(b, "11 ticks", x, d, Rig.READYING, 2);
        x.deliver(0);
        counted(b, "END once more", x, d, Rig.READYING, 2);
        b.wire("ENDED once more", x, Rig.READY, Rig.READY, Rig.READY, Rig.ENDED);
        x.tick(1);
        isIdle(b, "12 ticks", x, d);
    }

    /** GO, READYING: DATA. */
    private static void goAtTheLastMoment(Bench b, int d) {
        for (int ticks = 11; ticks <= 12; ticks++) {
            FieldRelay x = brought(d, Rig.R_DATA);
            b.wire("GO", x, Rig.GO);
            x.close(1 - d);
            x.lose(1);
            x.tick(8);
            x.tick(ticks - 8);
            int sent = x.count(1);
            x.deliver(0);
            if (ticks == 11) {
                counted(b, "GO behind 11 ticks", x, d, Rig.D_DATA, 0);
            } else {
                isIdle(b, "GO behind 12 ticks", x, d);
            }
            b.is("nothing is sent for it", x.count(1), sent);
        }
    }

    private static FieldRelay inData(int d) {
        FieldRelay x = Rig.alike(true);
        x.substitute(d, 2, 99);
        Rig.connect(x, 1 - d);
        return x;
    }

    /** WATCH: TICKS since DATA began: with 4 it sends ABORT, and is IDLE. */
    private static void watchFromTheBeginning(Bench b, int d) {
        FieldRelay x = inData(d);
        x.close(1 - d);
        Rig.loseAll(x);
        for (int t = 0; t < 4; t++) {
            counted(b, "tick " + t, x, d, Rig.D_DATA, t);
            b.is("INPUT in each tick", x.count(3), t);
            x.tick(1);
        }
        isIdle(b, "tick 4", x, d);
        b.wire("no INPUT in the fourth", x, Rig.INPUT, Rig.INPUT, Rig.INPUT, Rig.ABORT);
        b.frame("ABORT", x, 3, Rig.ABORT, 1, 0, Rig.CONTROLLER);
        b.is("by WATCH", x.count(7), 1);
        b.data("substituted", x, 0, d, 99, 99, 99, 99, 99, 99);
    }

    /** Or since it took the last one. */
    private static void watchFromTheLastOutput(Bench b, int d) {
        FieldRelay x = inData(d);
        for (int n = 0; n < 3; n++) {
            x.tick(3);
            counted(b, "3 ticks", x, d, Rig.D_DATA, 3);
            Rig.drain(x);
            counted(b, "taken at the last moment", x, d, Rig.D_DATA, 0);
        }
        x.close(1 - d);
        Rig.loseAll(x);
        x.tick(3);
        counted(b, "3 ticks", x, d, Rig.D_DATA, 3);
        b.data("as given", x, 0, d, 0, 0, 0, 0, 0, 0);
        x.tick(1);
        isIdle(b, "4 ticks", x, d);
        b.is("one WATCH ended", x.count(7), 1);
    }

    private static void watchAndOldOutputs(Bench b, int d) {
        FieldRelay x = inData(d);
        x.tick(1);
        x.repeat(0);
        x.deliver(0);
        counted(b, "taken", x, d, Rig.D_DATA, 0);
        x.close(1 - d);
        x.lose(x.count(3) - 1);
        x.tick(3);
        Rig.deliverType(x, Rig.OUTPUT);
        counted(b, "the same once more", x, d, Rig.D_DATA, 3);
        x.tick(1);
        isIdle(b, "does not keep it", x, d);
    }

    private static void idleCountsNothing(Bench b) {
        FieldRelay x = Rig.alike(false);
        x.tick(8);
        for (int d = 0; d < 2; d++) {
            isIdle(b, "8 ticks", x, d);
        }
        Rig.bring(x, 0, Rig.WRITING);
        counted(b, "CONNECT begins at 0", x, 0, Rig.CONNECTED, 0);
    }
}
