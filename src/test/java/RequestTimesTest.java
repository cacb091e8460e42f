/** The TICKS that a RELATION counts: requests that are not answered, WAITING, and WATCH. */
public final class RequestTimesTest {
    private static final int[] REQUESTS = {0, Rig.SEEK, Rig.CONNECT, Rig.WRITE, Rig.END};

    public static void main(String[] args) {
        Bench b = new Bench("times of relations");
        for (int r = 0; r < 2; r++) {
            for (int state = Rig.SEEKING; state <= Rig.ENDING; state++) {
                sentAgainTwice(b, r, state);
                answeredBeforeItIsSentAgain(b, r, state);
                answeredAtTheLastMoment(b, r, state);
                answeredTooLate(b, r, state);
            }
            eachWriteAnew(b, r);
            waitingFor12(b, r);
            readyAtTheLastMoment(b, r);
            watchFromTheBeginning(b, r);
            watchFromTheLastInput(b, r);
            watchAndOldInputs(b, r);
        }
        manyTicksInOneCall(b);
        closedAndOpenedAgain(b);
        b.finish();
    }

    /** Crossed, so that a relation's number is not that of its device. */
    private static FieldRelay brought(int r, int state) {
        FieldRelay x = Rig.alike(true);
        Rig.bring(x, r, state);
        return x;
    }

    private static void counted(Bench b, String what, FieldRelay x, int r, int state, int ticks, int again) {
        b.is(what + ": state", x.relation(r, 0), state);
        b.is(what + ": ticks", x.relation(r, 5), ticks);
        b.is(what + ": again", x.relation(r, 6), again);
    }

    private static void isClosed(Bench b, String what, FieldRelay x, int r) {
        counted(b, what, x, r, Rig.CLOSED, 0, 0);
        b.is(what + ": session", x.relation(r, 1), 0);
        b.is(what + ": found", x.relation(r, 2), -1);
    }

    /** Sent again 4 TICKS after it was sent, twice; 4 TICKS behind that ABORT (not for SEEK), and CLOSED. */
    private static void sentAgainTwice(Bench b, int r, int state) {
        FieldRelay x = brought(r, state);
        String what = "relation " + r + " in state " + state;
        for (int t = 0; t < 12; t++) {
            counted(b, what + ", tick " + t, x, r, state, t % 4, t / 4);
            b.is(what + ", tick " + t + ": requests", x.count(3), 1 + t / 4);
            b.is(what + ", tick " + t + ": the last one", x.frame(t / 4, 0), REQUESTS[state]);
            x.tick(1);
        }
        isClosed(b, what + ", tick 12", x, r);
        if (state == Rig.SEEKING) {
            b.is("no ABORT", x.count(3), 3);
        } else {
            b.is("ABORT", x.count(3), 4);
            b.frame("ABORT", x, 3, Rig.ABORT, 1, 0, 1 - r);
        }
        int sent = x.count(1);
        x.tick(8);
        b.is("nothing comes behind it", x.count(1) - sent, 0);
        b.is("not by WATCH", x.count(7), 0);
    }

    /** Delivers the answer to the request alone: the request at this place, and what comes of it. */
    private static void answer(FieldRelay x, int request) {
        x.deliver(request);
        x.deliver(x.count(3) - (x.frame(x.count(3) - 1, 0) == Rig.READY ? 2 : 1));
    }

    private static void answeredBeforeItIsSentAgain(Bench b, int r, int state) {
        FieldRelay x = brought(r, state);
        x.tick(3);
        answer(x, 0);
        boolean writing = state == Rig.WRITING;
        counted(b, "answered behind 3 ticks", x, r, writing ? Rig.WRITING : state + 1, 0, 0);
        int sent = x.count(1);
        x.tick(1);
        b.is("not sent again by the fourth", x.count(1), sent);
        counted(b, "the next one has its own ticks", x, r, writing ? Rig.WRITING : state + 1, 1, 0);
    }

    private static void answeredAtTheLastMoment(Bench b, int r, int state) {
        FieldRelay x = brought(r, state);
        x.tick(8);
        x.tick(3);
        counted(b, "11 ticks", x, r, state, 3, 2);
        Rig.deliverType(x, REQUESTS[state]);
        int answer = x.count(3) - (state == Rig.ENDING ? 2 : 1);
        x.deliver(answer);
        counted(b, "answered behind 11 ticks", x, r, state == Rig.WRITING ? state : state + 1, 0, 0);
        x.tick(1);
        b.is("it goes on", x.relation(r, 5), 1);
    }

    private static void answeredTooLate(Bench b, int r, int state) {
        FieldRelay x = brought(r, state);
        Rig.deliverType(x, REQUESTS[state]);
        x.tick(8);
        x.tick(4);
        isClosed(b, "12 ticks", x, r);
        int sent = x.count(1);
        x.deliver(0);
        isClosed(b, "the answer is late", x, r);
        b.is("nothing is sent for it", x.count(1), sent);
    }

    /** Three slots: WRITTEN at the last moment each time, so that three requests take 33 ticks. */
    private static void eachWriteAnew(Bench b, int r) {
        FieldRelay x = brought(r, Rig.WRITING);
        for (int slot = 0; slot < 3; slot++) {
            x.tick(8);
            x.tick(3);
            counted(b, "slot " + slot, x, r, Rig.WRITING, 3, 2);
            int latest = x.count(3) - 1;
            b.frame("WRITE", x, latest, Rig.WRITE, 1, slot, 1 - r, 70 + slot);
            x.deliver(latest);
            x.deliver(latest);
            Rig.loseAllBut(x, x.count(3) - 1);
        }
        counted(b, "none more", x, r, Rig.ENDING, 0, 0);
        b.wire("END", x, Rig.END);
    }

    /** WAITING for 12 TICKS: ABORT is sent, CLOSED. */
    private static void waitingFor12(Bench b, int r) {
        FieldRelay x = brought(r, Rig.WAITING);
        Rig.loseAll(x);
        for (int t = 0; t < 12; t++) {
            counted(b, "waiting, tick " + t, x, r, Rig.WAITING, t, 0);
            Rig.loseAll(x);
            x.tick(1);
        }
        isClosed(b, "tick 12", x, r);
        b.frame("ABORT", x, 0, Rig.ABORT, 1, 0, 1 - r);
        b.is("not by WATCH", x.count(7), 0);
    }

    private static void readyAtTheLastMoment(Bench b, int r) {
        FieldRelay x = brought(r, Rig.WAITING);
        b.wire("READY", x, Rig.READY);
        x.tick(8);
        x.tick(3);
        counted(b, "11 ticks", x, r, Rig.WAITING, 11, 0);
        x.deliver(0);
        counted(b, "READY", x, r, Rig.R_DATA, 0, 0);
        b.frame("GO", x, x.count(3) - 1, Rig.GO, 1, 0, 1 - r);
        FieldRelay y = brought(r, Rig.WAITING);
        y.tick(8);
        y.tick(4);
        int sent = y.count(1);
        y.deliver(0);
        isClosed(b, "READY behind 12 ticks", y, r);
        b.is("no GO", y.count(1), sent);
    }

    private static FieldRelay inData(int r) {
        FieldRelay x = Rig.alike(true);
        Rig.connect(x, r);
        return x;
    }

    /** WATCH: TICKS since DATA began: with 4 it sends ABORT, and is CLOSED. */
    private static void watchFromTheBeginning(Bench b, int r) {
        FieldRelay x = brought(r, Rig.R_DATA);
        Rig.loseAll(x);
        for (int t = 0; t < 4; t++) {
            counted(b, "tick " + t, x, r, Rig.R_DATA, t, 0);
            b.is("OUTPUT in each tick", outputs(x), t);
            x.tick(1);
        }
        isClosed(b, "tick 4", x, r);
        b.is("no OUTPUT in the fourth", outputs(x), 3);
        b.frame("but ABORT", x, Rig.find(x, Rig.ABORT), Rig.ABORT, 1, 0, 1 - r);
        b.is("by WATCH", x.count(7), 1);
    }

    private static int outputs(FieldRelay x) {
        int n = 0;
        for (int k = 0; k < x.count(3); k++) {
            n += x.frame(k, 0) == Rig.OUTPUT ? 1 : 0;
        }
        return n;
    }

    /** Or since it took the last one. */
    private static void watchFromTheLastInput(Bench b, int r) {
        FieldRelay x = inData(r);
        for (int n = 0; n < 3; n++) {
            x.tick(3);
            counted(b, "3 ticks", x, r, Rig.R_DATA, 3, 0);
            Rig.drain(x);
            counted(b, "taken at the last moment", x, r, Rig.R_DATA, 0, 0);
        }
        b.is("no WATCH ended", x.count(7), 0);
        x.tick(1);
        x.deliver(0);
        x.tick(2);
        counted(b, "3 ticks", x, r, Rig.R_DATA, 3, 0);
        x.tick(1);
        isClosed(b, "4 ticks", x, r);
        b.is("one WATCH ended", x.count(7), 1);
        Rig.deliverType(x, Rig.INPUT);
        isClosed(b, "INPUT is late", x, r);
        b.data("INPUTS are 0", x, 1, r, 0, 0, 0, 0, 0, 0);
    }

    private static void watchAndOldInputs(Bench b, int r) {
        FieldRelay x = inData(r);
        x.tick(1);
        x.repeat(1);
        Rig.deliverType(x, Rig.INPUT);
        counted(b, "taken", x, r, Rig.R_DATA, 0, 0);
        x.tick(3);
        Rig.deliverType(x, Rig.INPUT);
        counted(b, "the same once more", x, r, Rig.R_DATA, 3, 0);
        x.tick(1);
        isClosed(b, "does not keep it", x, r);
    }

    private static void manyTicksInOneCall(Bench b) {
        FieldRelay x = brought(0, Rig.SEEKING);
        b.is("tick(8)", x.tick(8), 3);
        counted(b, "tick(8)", x, 0, Rig.SEEKING, 0, 2);
        b.is("tick(8)", x.tick(8), 3);
        isClosed(b, "tick(8) twice", x, 0);
        b.is("ticks", x.count(0), 16);
        FieldRelay y = inData(0);
        b.is("tick(8) in DATA", y.tick(8), 8);
        isClosed(b, "tick(8) in DATA", y, 0);
        b.is("IDLE", y.device(1, 0), Rig.IDLE);
        b.is("both by WATCH", y.count(7), 2);
    }

    private static void closedAndOpenedAgain(Bench b) {
        FieldRelay x = brought(0, Rig.SEEKING);
        x.tick(7);
        counted(b, "7 ticks", x, 0, Rig.SEEKING, 3, 1);
        x.close(0);
        x.open(0);
        counted(b, "opened again", x, 0, Rig.SEEKING, 0, 0);
        x.tick(3);
        b.is("4 ticks for itself", x.relation(0, 6), 0);
        x.tick(1);
        b.is("4 ticks for itself", x.relation(0, 6), 1);
    }
}
