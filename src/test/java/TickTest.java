/** Promise 15: tick, and all that is counted. */
public final class TickTest {
    public static void main(String[] args) {
        Bench b = new Bench("promise 15");
        edges(b);
        requestsAreSentAgain(b);
        eachWriteHasItsOwnCount(b);
        waitingEnds(b);
        connectedEnds(b);
        readyIsSentAgain(b);
        watchEnds(b);
        watchIsKeptByNewer(b);
        orderWithinATick(b);
        b.finish();
    }

    private static void edges(Bench b) {
        FieldRelay x = new FieldRelay();
        for (int wrong : new int[] {0, -1, 9, Integer.MIN_VALUE, Integer.MAX_VALUE}) {
            b.is("tick(" + wrong + ")", x.tick(wrong), -1);
        }
        b.is("no ticks", x.count(0), 0);
        b.is("tick(1)", x.tick(1), 0);
        b.is("tick(8)", x.tick(8), 0);
        b.is("ticks", x.count(0), 9);
        b.relation("closed counts nothing", x, 0, 0, 0, -1, 0, 0, 0, 0);
        b.device("idle counts nothing", x, 0, 0, 0, 0, 0, 0, -1, -1, -1, 0);
    }

    private static void requestsAreSentAgain(Bench b) {
        int[] types = {0, Rig.SEEK, Rig.CONNECT, Rig.WRITE, Rig.END};
        for (int state = Rig.SEEKING; state <= Rig.ENDING; state++) {
            FieldRelay x = Rig.brought(0, state);
            int[] first = new int[11];
            for (int i = 0; i < 11; i++) {
                first[i] = x.frame(0, i);
            }
            b.is("request", first[0], types[state]);
            for (int again = 1; again <= 2; again++) {
                b.is("3 ticks", x.tick(3), again);
                b.is("ticks", x.relation(0, 5), 3);
                b.is("times again", x.relation(0, 6), again - 1);
                b.is("the fourth", x.tick(1), again + 1);
                b.frame("the same again", x, again, first);
                b.is("ticks", x.relation(0, 5), 0);
                b.is("times again", x.relation(0, 6), again);
            }
            b.is("3 ticks", x.tick(3), 3);
            b.is("not yet", x.relation(0, 0), state);
            b.is("the end", x.tick(1), state == Rig.SEEKING ? 3 : 4);
            if (state > Rig.SEEKING) {
                b.frame("ABORT", x, 3, Rig.ABORT, 1, 0, 0);
            }
            b.relation("closed", x, 0, Rig.CLOSED, 0, -1);
            b.is("no ticks", x.relation(0, 5), 0);
            b.is("times again", x.relation(0, 6), 0);
            b.is("no watch ended it", x.count(7), 0);
        }
    }

    private static void eachWriteHasItsOwnCount(Bench b) {
        FieldRelay x = Rig.prepared();
        x.plug(0, 2, 0);
        Rig.bring(x, 0, Rig.WRITING);
        x.tick(6);
        x.deliver(0);
        b.is("the first was sent again", x.relation(0, 6), 1);
        x.deliver(1);
        b.wire("the second is sent", x, Rig.WRITE, Rig.WRITE);
        b.is("ticks", x.relation(0, 5), 0);
        b.is("times again", x.relation(0, 6), 0);
        x.deliver(0);
        b.is("WRITTEN for another slot", x.deliver(1), 1);
        b.frame("changes nothing", x, 0, Rig.WRITE, 1, 2, 0, 5);
        b.is("writing", x.relation(0, 0), Rig.WRITING);
    }

    private static void waitingEnds(Bench b) {
        FieldRelay x = Rig.brought(0, Rig.WAITING);
        x.lose(0);
        x.tick(8);
        x.tick(3);
        Rig.loseAll(x);
        b.relation("11 ticks", x, 0, Rig.WAITING, 1, 0, 4, 0, 11, 0);
        x.tick(1);
        b.is("ABORT", x.frame(0, 0), Rig.ABORT);
        b.frame("to the device", x, 0, Rig.ABORT, 1, 0, 0);
        b.relation("closed", x, 0, Rig.CLOSED, 0, -1);
        b.is("no watch ended it", x.count(7), 0);
    }

    private static void connectedEnds(Bench b) {
        FieldRelay x = Rig.brought(0, Rig.WRITING);
        x.repeat(0);
        x.close(0);
        x.lose(2);
        x.tick(8);
        x.tick(7);
        b.is("15 ticks behind CONNECT", x.device(0, 8), 15);
        x.deliver(0);
        b.is("WRITE begins it anew", x.device(0, 8), 0);
        x.tick(8);
        x.tick(7);
        b.is("15 ticks behind WRITE", x.device(0, 0), Rig.CONNECTED);
        int sent = x.count(1);
        x.tick(1);
        b.device("idle", x, 0, Rig.IDLE, 0, 0, 0, 0, -1, -1, -1, 0);
        b.is("nothing is sent", x.count(1), sent);
        b.is("WRITE when idle", x.deliver(0), 1);
        b.is("is not taken", x.device(0, 5), -1);
    }

    private static void readyIsSentAgain(Bench b) {
        FieldRelay x = Rig.brought(0, Rig.ENDING);
        x.deliver(0);
        x.close(0);
        Rig.loseAll(x);
        for (int again = 1; again <= 3; again++) {
            b.is("2 ticks", x.tick(2), again - 1);
            b.is("ticks", x.device(0, 8), 2);
            b.is("the third", x.tick(1), again);
            b.frame("READY", x, again - 1, Rig.READY, 1, 0, Rig.CONTROLLER);
            b.is("ticks", x.device(0, 8), 0);
        }
        b.is("2 ticks", x.tick(2), 3);
        b.is("readying still", x.device(0, 0), Rig.READYING);
        b.is("the third", x.tick(1), 4);
        b.frame("ABORT", x, 3, Rig.ABORT, 1, 0, Rig.CONTROLLER);
        b.device("idle", x, 0, Rig.IDLE, 0, 0, 0, 0, -1, -1, -1, 0);
        b.is("no watch ended it", x.count(7), 0);
        Rig.loseAll(x);
        Rig.bring(x, 0, Rig.ENDING);
        x.deliver(0);
        x.close(0);
        Rig.loseAll(x);
        b.is("three times in each session", x.tick(8), 2);
        b.is("three times in each session", x.tick(4), 4);
        endAgainDoesNotDelayReady(b);
    }

    private static void endAgainDoesNotDelayReady(Bench b) {
        FieldRelay x = Rig.brought(0, Rig.ENDING);
        x.repeat(0);
        x.deliver(0);
        x.tick(2);
        x.deliver(0);
        b.wire("ENDED again, without READY", x, Rig.ENDED, Rig.READY, Rig.ENDED);
        b.frame("ENDED", x, 2, Rig.ENDED, 1, 0, Rig.CONTROLLER);
        b.is("ticks go on", x.device(0, 8), 2);
        x.tick(1);
        b.is("READY again", x.frame(3, 0), Rig.READY);
    }

    private static void watchEnds(Bench b) {
        FieldRelay x = Rig.inData();
        x.tick(3);
        b.is("3 ticks", x.relation(0, 5), 3);
        b.is("3 ticks", x.device(0, 8), 3);
        b.is("the watch goes from when DATA began", x.tick(1), 8);
        b.frame("the relation's ABORT", x, 6, Rig.ABORT, 1, 0, 0);
        b.frame("the device's ABORT", x, 7, Rig.ABORT, 1, 0, Rig.CONTROLLER);
        b.is("closed", x.relation(0, 0), Rig.CLOSED);
        b.is("idle", x.device(0, 0), Rig.IDLE);
        b.is("two were ended", x.count(7), 2);
        FieldRelay y = Rig.inData();
        y.tick(2);
        Rig.deliverType(y, Rig.OUTPUT);
        Rig.loseAll(y);
        y.tick(2);
        b.is("the relation took none", y.relation(0, 0), Rig.CLOSED);
        b.is("the device took one", y.device(0, 0), Rig.D_DATA);
        b.is("one was ended", y.count(7), 1);
        Rig.deliverType(y, Rig.ABORT);
        b.is("ABORT ends the other", y.device(0, 0), Rig.IDLE);
        b.is("but no watch", y.count(7), 1);
    }

    private static void watchIsKeptByNewer(Bench b) {
        FieldRelay x = Rig.inData();
        for (int i = 0; i < 5; i++) {
            x.tick(3);
            Rig.drain(x);
        }
        b.relation("in DATA", x, 0, Rig.R_DATA, 1, 0, 4, 3, 0, 0);
        b.is("in DATA", x.device(0, 0), Rig.D_DATA);
        b.is("none was ended", x.count(7), 0);
    }

    private static void orderWithinATick(Bench b) {
        FieldRelay x = Rig.inData();
        Rig.connect(x, 1);
        x.plug(0, 0, 5);
        x.plug(1, 0, 6);
        x.tick(1);
        b.wire("one tick", x, Rig.OUTPUT, Rig.OUTPUT, Rig.ALARM, Rig.INPUT, Rig.ALARM, Rig.INPUT);
        b.frame("relation 0", x, 0, Rig.OUTPUT, 1, 0, 0, 11, 12, 13);
        b.frame("relation 1", x, 1, Rig.OUTPUT, 2, 0, 1, 31);
        b.frame("device 0", x, 2, Rig.ALARM, 1, 1, Rig.CONTROLLER, 0, 6);
        b.frame("device 0", x, 3, Rig.INPUT, 1, 0, Rig.CONTROLLER, 0, 0, 23, 24, 0, 0, 2);
        b.frame("device 1", x, 4, Rig.ALARM, 2, 1, Rig.CONTROLLER, 0, 7);
        b.frame("device 1", x, 5, Rig.INPUT, 2, 0, Rig.CONTROLLER);
    }
}
