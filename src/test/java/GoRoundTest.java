/** Numbers that go round: SESSIONS, the counters of OUTPUT and INPUT and what is NEWER, the numbers of ALARMS. */
public final class GoRoundTest {
    private static final int OLD_OUTPUT = 0, OLD_INPUT = 1;

    public static void main(String[] args) {
        Bench b = new Bench("numbers go round");
        sessions(b);
        countersGoUpTo255(b);
        newerIs1To127(b);
        anyIsNewerAsTheFirst(b);
        anyIsNewerInASecondData(b);
        firstInEachData(b);
        alarmNumbers(b);
        b.finish();
    }

    /** Numbered from 1 on, modulo 65536, 0 left out: more calls than the document promises, but no fewer get there. */
    private static void sessions(Bench b) {
        FieldRelay x = new FieldRelay();
        x.target(0, 1);
        x.target(1, 2);
        x.name(1, 2);
        for (int n = 1; n <= 65534; n++) {
            int r = n % 2;
            if (x.open(r) != n || x.relation(r, 1) != n) {
                b.is("session", x.relation(r, 1), n);
            }
            x.close(r);
        }
        Rig.loseAll(x);
        b.is("the largest", x.open(1), 65535);
        x.deliver(0);
        x.deliver(0);
        b.is("it goes with its frames", x.frame(0, 1), 65535);
        b.is("the largest", x.relation(1, 1), 65535);
        b.is("1 again, not 0", x.open(0), 1);
        b.is("1 again", x.relation(0, 1), 1);
        x.close(1);
        b.is("then 2", x.open(1), 2);
        b.is("sessions begun", x.count(5), 65537);
    }

    /**
     * Lets both sides take each third counter until both took this one. The wire is full but for two frames, so that
     * of three ticks only the first one's OUTPUT and INPUT get through. The counter sent next is 1, and the watches
     * have counted one tick already.
     */
    private static void takeUpTo(FieldRelay x, int last) {
        int next = 1;
        while (next <= last) {
            int most = next == 1 ? 2 : 3;
            int n = next == last ? 1 : Math.min(most, last - next);
            x.tick(n);
            x.deliver(14);
            x.deliver(14);
            next += n;
        }
    }

    /** In DATA on a wire full but for two frames, the first of which are the OUTPUT and the INPUT with counter 0. */
    private static FieldRelay withOldFrames() {
        FieldRelay x = Rig.inData();
        x.tick(1);
        Rig.fill(x, 14);
        x.give(0, 0, 0, 201);
        x.sense(0, 0, 0, 202);
        return x;
    }

    /** The counter, 8 bits, at first 0, one more each time. */
    private static void countersGoUpTo255(Bench b) {
        FieldRelay x = withOldFrames();
        b.is("at first 0", x.frame(OLD_OUTPUT, 2), 0);
        b.is("at first 0", x.frame(OLD_INPUT, 2), 0);
        takeUpTo(x, 254);
        for (int n : new int[] {255, 0, 1}) {
            x.tick(1);
            b.frame("OUTPUT", x, 14, Rig.OUTPUT, 1, n, 0, 201, 12, 13);
            b.frame("INPUT", x, 15, Rig.INPUT, 1, n, Rig.CONTROLLER, 202, 0, 23, 24, 0, 0, 3);
            x.deliver(14);
            x.deliver(14);
            b.is("taken by the device", x.device(0, 8), 0);
            b.is("taken by the relation", x.relation(0, 5), 0);
        }
    }

    /** The counter less the one taken last, modulo 256, is 1..127. */
    private static void newerIs1To127(Bench b) {
        oldOneComes(b, 1, 255, false);
        oldOneComes(b, 127, 129, false);
        oldOneComes(b, 128, 128, false);
        oldOneComes(b, 129, 127, true);
        oldOneComes(b, 255, 1, true);
        oldOneComes(b, 256, 0, false);
        oldOneComes(b, 257, 255, false);
    }

    private static void oldOneComes(Bench b, int takenLast, int less, boolean newer) {
        FieldRelay x = withOldFrames();
        takeUpTo(x, takenLast);
        b.is("the device took the latest", x.data(0, 0, 0, 0), 201);
        b.is("the relation took the latest", x.data(1, 0, 0, 0), 202);
        x.tick(1);
        x.deliver(OLD_INPUT);
        x.deliver(OLD_OUTPUT);
        String what = "less the last, " + less;
        b.is(what + ": output", x.data(0, 0, 0, 0), newer ? 11 : 201);
        b.is(what + ": input", x.data(1, 0, 0, 0), newer ? 21 : 202);
        b.is(what + ": the device's watch", x.device(0, 8), newer ? 0 : 1);
        b.is(what + ": the relation's watch", x.relation(0, 5), newer ? 0 : 1);
    }

    /** Or none was taken in this DATA. */
    private static void anyIsNewerAsTheFirst(Bench b) {
        for (int first = 0; first <= 2; first++) {
            FieldRelay x = Rig.inData();
            x.tick(3);
            x.deliver(2 * first + 1);
            x.deliver(2 * first);
            b.is("the device took counter " + first, x.device(0, 8), 0);
            b.is("the relation took counter " + first, x.relation(0, 5), 0);
            x.tick(1);
            for (int n = 0; n < 2; n++) {
                boolean newer = n >= first;
                x.deliver(0);
                x.deliver(0);
                b.is("the device's watch", x.device(0, 8), newer ? 0 : 1);
                b.is("the relation's watch", x.relation(0, 5), newer ? 0 : 1);
            }
        }
    }

    /**
     * The device's watch ends, and late frames of the same SESSION bring it to DATA once more, while its relation
     * goes on to large counters: none was taken in this DATA, so the first that comes is taken.
     */
    private static void anyIsNewerInASecondData(Bench b) {
        for (int first : new int[] {126, 127, 128, 129, 200, 255}) {
            FieldRelay x = Rig.inDataWithItsWayHeld();
            x.tick(1);
            Rig.fill(x, 14);
            takeUpTo(x, first - 5);
            x.tick(3);
            x.deliver(15);
            x.tick(1);
            b.is("ended by its watch", x.device(0, 0), Rig.IDLE);
            b.is("not ended by its watch", x.relation(0, 0), Rig.R_DATA);
            x.lose(15);
            x.lose(14);
            for (int type : new int[] {Rig.CONNECT, Rig.END, Rig.GO}) {
                Rig.deliverType(x, type);
            }
            b.is("DATA once more", x.device(0, 0), Rig.D_DATA);
            x.give(0, 0, 0, 77);
            x.tick(1);
            b.frame("OUTPUT", x, 14, Rig.OUTPUT, 1, first, 0, 77);
            b.is("INPUT's counter begins anew", x.frame(15, 2), 0);
            x.deliver(14);
            b.is("the first is taken, " + first, x.data(0, 0, 0, 0), 77);
            b.is("the first is taken, " + first, x.device(0, 8), 0);
        }
    }

    /** A new DATA begins its counters at 0, and takes 0 though more was taken in the one before. */
    private static void firstInEachData(Bench b) {
        FieldRelay x = Rig.inData();
        for (int n = 0; n < 5; n++) {
            Rig.cycle(x);
        }
        x.close(0);
        Rig.drain(x);
        Rig.connect(x, 0);
        x.tick(1);
        b.is("OUTPUT's counter", x.frame(0, 2), 0);
        b.is("INPUT's counter", x.frame(1, 2), 0);
        Rig.drain(x);
        b.is("taken by the device", x.device(0, 8), 0);
        b.is("taken by the relation", x.relation(0, 5), 0);
        b.is("taken by the relation", x.relation(0, 4), 3);
    }

    /** 1 the first in a SESSION, 1 again behind 255: more calls than are promised here, too. */
    private static void alarmNumbers(Bench b) {
        FieldRelay x = Rig.inData();
        for (int n = 1; n <= 258; n++) {
            int number = n <= 255 ? n : n - 255;
            x.plug(0, 0, n % 2 == 0 ? 0 : -1);
            x.tick(1);
            b.frame("ALARM", x, 1, Rig.ALARM, 1, number, Rig.CONTROLLER, 0, n % 2 == 0 ? 1 : 0);
            b.is("on its way", x.device(0, 4), number);
            Rig.drain(x);
            b.is("told", x.count(6), n);
            b.is("taken", x.device(0, 3), 0);
        }
    }
}
