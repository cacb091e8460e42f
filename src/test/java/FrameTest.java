/** Promise 16: frame. */
public final class FrameTest {
    public static void main(String[] args) {
        Bench b = new Bench("promise 16");
        edges(b);
        framesOfTheController(b);
        framesOfTheDevice(b);
        rowsAreNotLeftBehind(b);
        b.finish();
    }

    private static void edges(Bench b) {
        FieldRelay x = Rig.inData();
        b.is("frame(0, 0) of none", x.frame(0, 0), -2);
        b.is("none is tested first", x.frame(0, 99), -2);
        b.is("none is tested first", x.frame(-1, -1), -2);
        x.tick(1);
        for (int wrong : new int[] {-1, 2, 15, 16, 17, Integer.MIN_VALUE, Integer.MAX_VALUE}) {
            b.is("frame(" + wrong + ", 0)", x.frame(wrong, 0), -2);
        }
        for (int wrong : new int[] {-1, 11, Integer.MIN_VALUE, Integer.MAX_VALUE}) {
            b.is("frame(1, " + wrong + ")", x.frame(1, wrong), -1);
        }
        b.is("the last octet", x.frame(1, 10), 3);
    }

    private static void framesOfTheController(Bench b) {
        FieldRelay x = Rig.prepared();
        x.name(1, 3);
        x.name(0, 0);
        x.plug(1, 0, 0);
        x.open(0);
        b.frame("SEEK", x, 0, Rig.SEEK, 0, 3, Rig.BOTH);
        x.deliver(0);
        x.deliver(0);
        b.frame("CONNECT", x, 0, Rig.CONNECT, 1, 0, 1, 1, 2, 1);
        x.deliver(0);
        x.deliver(0);
        b.frame("WRITE", x, 0, Rig.WRITE, 1, 0, 1, 77);
        x.deliver(0);
        x.deliver(0);
        b.frame("END", x, 0, Rig.END, 1, 0, 1);
        x.deliver(0);
        x.deliver(0);
        x.deliver(0);
        b.frame("GO", x, 0, Rig.GO, 1, 0, 1);
        x.deliver(0);
        x.tick(2);
        b.frame("OUTPUT", x, 2, Rig.OUTPUT, 1, 1, 1, 11, 12);
        x.close(0);
        b.frame("ABORT", x, 4, Rig.ABORT, 1, 0, 1);
    }

    private static void framesOfTheDevice(Bench b) {
        FieldRelay x = Rig.prepared();
        x.name(1, 3);
        x.name(0, 0);
        x.plug(1, 0, 0);
        x.open(0);
        x.deliver(0);
        b.frame("FOUND", x, 0, Rig.FOUND, 0, 1, Rig.CONTROLLER, 3);
        x.deliver(0);
        x.deliver(0);
        b.frame("ACCEPT", x, 0, Rig.ACCEPT, 1, 6, Rig.CONTROLLER);
        x.deliver(0);
        x.deliver(0);
        b.frame("WRITTEN", x, 0, Rig.WRITTEN, 1, 0, Rig.CONTROLLER);
        x.deliver(0);
        x.deliver(0);
        b.frame("ENDED", x, 0, Rig.ENDED, 1, 0, Rig.CONTROLLER);
        b.frame("READY", x, 1, Rig.READY, 1, 0, Rig.CONTROLLER);
        Rig.drain(x);
        x.plug(1, 1, 4);
        x.tick(1);
        b.frame("ALARM", x, 1, Rig.ALARM, 1, 1, Rig.CONTROLLER, 1, 5);
        b.frame("INPUT", x, 2, Rig.INPUT, 1, 0, Rig.CONTROLLER, 41, 0, 0, 0, 0, 0, 1);
        x.deliver(1);
        b.frame("TAKEN", x, 2, Rig.TAKEN, 1, 1, 1);
        x.tick(3);
        b.is("idle by its watch", x.device(1, 0), Rig.IDLE);
        b.frame("ABORT", x, x.count(3) - 1, Rig.ABORT, 1, 0, Rig.CONTROLLER);
    }

    /** Frames without a row follow on full ones in every place of the wire. */
    private static void rowsAreNotLeftBehind(Bench b) {
        FieldRelay x = Rig.inData();
        x.tick(1);
        while (x.repeat(1) > 0) {
            b.is("a full row", x.frame(x.count(3) - 1, 10), 3);
        }
        Rig.loseAll(x);
        x.close(0);
        x.target(0, 8);
        for (int k = 1; k < 16; k++) {
            x.open(0);
            x.close(0);
            b.frame("an empty row", x, k, Rig.SEEK, 0, 8, Rig.BOTH);
        }
    }
}
