/** THE WIRE holds at most 16 FRAMES, in the order in which they were sent; one that would be the seventeenth is lost. */
public final class WireRoomTest {
    private static final int ROOM = 16;

    public static void main(String[] args) {
        Bench b = new Bench("the wire's room");
        emptyWire(b);
        openOnAnAlmostFullWire(b);
        closeOnAnAlmostFullWire(b);
        tickOnAnAlmostFullWire(b);
        watchOnAFullWire(b);
        requestsAgainOnAFullWire(b);
        twoAnswersOnAnAlmostFullWire(b);
        oneAnswerOnAFullWire(b);
        twoDevicesAnswerOnAFullWire(b);
        repeatOnAnAlmostFullWire(b);
        whatWasLostIsNowhere(b);
        orderOfSending(b);
        b.finish();
    }

    private static void counts(Bench b, String what, FieldRelay x, int sent, int lost, int there) {
        b.is(what + ": sent", x.count(1), sent);
        b.is(what + ": lost for want of room", x.count(2), lost);
        b.is(what + ": on the wire", x.count(3), there);
    }

    private static void emptyWire(Bench b) {
        FieldRelay x = Rig.prepared();
        b.is("deliver(0)", x.deliver(0), -2);
        b.is("lose(0)", x.lose(0), -2);
        b.is("repeat(0)", x.repeat(0), -2);
        b.is("frame(0, 0)", x.frame(0, 0), -2);
        counts(b, "empty", x, 0, 0, 0);
        x.open(0);
        b.is("the first one is lost", x.lose(0), 0);
        b.is("deliver(0)", x.deliver(0), -2);
        b.is("repeat(0)", x.repeat(0), -2);
        b.is("delivered", x.count(4), 0);
    }

    private static FieldRelay seekingWith(int frames) {
        FieldRelay x = Rig.prepared();
        x.open(0);
        Rig.fill(x, frames);
        return x;
    }

    private static void openOnAnAlmostFullWire(Bench b) {
        FieldRelay x = seekingWith(ROOM - 1);
        b.is("open(1)", x.open(1), 2);
        counts(b, "the sixteenth has room", x, 2, 0, ROOM);
        b.frame("SEEK", x, ROOM - 1, Rig.SEEK, 0, 4, Rig.BOTH);
        FieldRelay y = seekingWith(ROOM);
        b.is("open(1)", y.open(1), 2);
        counts(b, "the seventeenth is lost", y, 2, 1, ROOM);
        b.relation("but it is SEEKING", y, 1, Rig.SEEKING, 2, -1, 0, 0, 0, 0);
        b.is("sessions begun", y.count(5), 2);
    }

    private static void closeOnAnAlmostFullWire(Bench b) {
        for (int frames = ROOM - 1; frames <= ROOM; frames++) {
            FieldRelay x = Rig.brought(0, Rig.CONNECTING);
            Rig.fill(x, frames);
            int sent = x.count(1);
            b.is("close(0)", x.close(0), Rig.CONNECTING);
            counts(b, "ABORT", x, sent + 1, frames == ROOM ? 1 : 0, ROOM);
            b.is("the last frame", x.frame(ROOM - 1, 0), frames == ROOM ? Rig.CONNECT : Rig.ABORT);
            b.is("CLOSED", x.relation(0, 0), Rig.CLOSED);
        }
    }

    private static void tickOnAnAlmostFullWire(Bench b) {
        for (int room = 0; room <= 2; room++) {
            FieldRelay x = Rig.inData();
            x.tick(1);
            Rig.fill(x, ROOM - room);
            int sent = x.count(1);
            b.is("tick", x.tick(1), ROOM);
            counts(b, "room for " + room, x, sent + 2, 2 - room, ROOM);
            b.is("OUTPUT came first", x.frame(ROOM - 2, 2), room == 2 ? 1 : 0);
            b.is("then INPUT", x.frame(ROOM - 1, 2), room == 0 ? 0 : 1);
            x.lose(0);
            x.lose(0);
            x.tick(1);
            b.frame("the counter went on", x, ROOM - 2, Rig.OUTPUT, 1, 2, 0, 11, 12, 13);
            b.is("the counter went on", x.frame(ROOM - 1, 2), 2);
        }
    }

    private static void watchOnAFullWire(Bench b) {
        FieldRelay x = Rig.inData();
        x.tick(1);
        Rig.fill(x, ROOM);
        x.tick(2);
        int sent = x.count(1);
        int lost = x.count(2);
        x.tick(1);
        counts(b, "both ABORT are lost", x, sent + 2, lost + 2, ROOM);
        b.is("CLOSED", x.relation(0, 0), Rig.CLOSED);
        b.is("IDLE", x.device(0, 0), Rig.IDLE);
        b.is("ended by WATCH", x.count(7), 2);
    }

    private static void requestsAgainOnAFullWire(Bench b) {
        FieldRelay x = seekingWith(ROOM);
        x.tick(4);
        b.is("sent again", x.relation(0, 6), 1);
        counts(b, "and lost", x, 2, 1, ROOM);
        x.lose(0);
        b.is("the next one has room", x.tick(4), ROOM);
        counts(b, "sent", x, 3, 1, ROOM);
    }

    /** END brings ENDED and READY; END itself is gone before. */
    private static void twoAnswersOnAnAlmostFullWire(Bench b) {
        FieldRelay x = Rig.brought(0, Rig.ENDING);
        Rig.fill(x, ROOM - 1);
        b.is("END, with room for both", x.deliver(0), ROOM);
        b.is("none lost", x.count(2), 0);
        b.is("ENDED", x.frame(ROOM - 2, 0), Rig.ENDED);
        b.is("READY", x.frame(ROOM - 1, 0), Rig.READY);
        FieldRelay y = Rig.brought(0, Rig.ENDING);
        Rig.fill(y, ROOM);
        b.is("END, with room for one", y.deliver(0), ROOM);
        b.is("READY is lost", y.count(2), 1);
        b.is("ENDED", y.frame(ROOM - 1, 0), Rig.ENDED);
        b.is("READYING", y.device(0, 0), Rig.READYING);
        y.lose(0);
        y.tick(2);
        b.is("not yet", y.count(3), ROOM - 1);
        y.tick(1);
        b.frame("READY again", y, ROOM - 1, Rig.READY, 1, 0, Rig.CONTROLLER);
    }

    private static void oneAnswerOnAFullWire(Bench b) {
        int[] states = {Rig.SEEKING, Rig.CONNECTING, Rig.WRITING};
        int[] answers = {Rig.FOUND, Rig.ACCEPT, Rig.WRITTEN};
        for (int i = 0; i < states.length; i++) {
            FieldRelay x = Rig.brought(0, states[i]);
            Rig.fill(x, ROOM);
            b.is("the request is gone before its answer", x.deliver(ROOM - 1), ROOM);
            b.is("the answer", x.frame(ROOM - 1, 0), answers[i]);
            b.is("none lost", x.count(2), 0);
            x.deliver(ROOM - 1);
            b.is("the next state", x.relation(0, 0), states[i] + 1);
            b.is("none lost", x.count(2), 0);
        }
    }

    private static void twoDevicesAnswerOnAFullWire(Bench b) {
        for (int frames = ROOM - 1; frames <= ROOM; frames++) {
            FieldRelay x = seekingWith(frames);
            x.name(1, 3);
            b.is("two FOUND", x.deliver(0), ROOM);
            b.is("lost", x.count(2), frames == ROOM ? 1 : 0);
            b.is("the last is of", x.frame(ROOM - 1, 2), frames == ROOM ? 0 : 1);
        }
    }

    private static void repeatOnAnAlmostFullWire(Bench b) {
        FieldRelay x = seekingWith(ROOM - 1);
        b.is("the sixteenth", x.repeat(ROOM - 2), ROOM);
        Snapshot before = Snapshot.of(x);
        b.is("no seventeenth", x.repeat(0), -2);
        b.is("no seventeenth", x.repeat(ROOM - 1), -2);
        b.is("nor of none", x.repeat(ROOM), -2);
        b.yes("it changes nothing", before.isLike(Snapshot.of(x)));
        counts(b, "repeated, not sent", x, 1, 0, ROOM);
        x.lose(ROOM - 1);
        b.is("with room again", x.repeat(0), ROOM);
    }

    private static void whatWasLostIsNowhere(Bench b) {
        FieldRelay x = seekingWith(ROOM);
        x.open(1);
        for (int left = ROOM - 1; left >= 0; left--) {
            b.frame("SEEK of relation 0", x, 0, Rig.SEEK, 0, 3, Rig.BOTH);
            b.is("lose", x.lose(0), left);
        }
        b.is("no more", x.lose(0), -2);
        x.tick(4);
        b.wire("both are sent again", x, Rig.SEEK, Rig.SEEK);
    }

    /** Sixteen frames that can be told apart; each end and the middle are taken out. */
    private static void orderOfSending(Bench b) {
        FieldRelay x = Rig.inData();
        for (int n = 0; n < 7; n++) {
            x.tick(1);
            x.repeat(2 * n);
            x.deliver(2 * n + 2);
            x.repeat(2 * n + 1);
            x.deliver(2 * n + 2);
        }
        x.tick(1);
        int[] numbers = {0, 0, 1, 1, 2, 2, 3, 3, 4, 4, 5, 5, 6, 6, 7, 7};
        inOrder(b, x, numbers);
        x.lose(15);
        x.lose(7);
        x.lose(0);
        inOrder(b, x, 0, 1, 1, 2, 2, 3, 4, 4, 5, 5, 6, 6, 7);
    }

    private static void inOrder(Bench b, FieldRelay x, int... numbers) {
        b.is("frames", x.count(3), numbers.length);
        for (int k = 0; k < numbers.length; k++) {
            b.is("number of frame " + k, x.frame(k, 2), numbers[k]);
        }
    }
}
