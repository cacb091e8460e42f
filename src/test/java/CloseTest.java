/** Promise 11: close. */
public final class CloseTest {
    public static void main(String[] args) {
        Bench b = new Bench("promise 11");
        FieldRelay x = new FieldRelay();
        for (int wrong : Rig.WRONG_PAIR) {
            b.is("close(" + wrong + ")", x.close(wrong), -1);
        }
        b.is("close(0) when CLOSED", x.close(0), 0);
        b.is("nothing is sent", x.count(1), 0);
        fromEveryState(b);
        inputsBecomeZero(b);
        theOtherOneStays(b);
        b.finish();
    }

    private static void fromEveryState(Bench b) {
        for (int r = 0; r < 2; r++) {
            for (int state = Rig.SEEKING; state <= Rig.R_DATA; state++) {
                if (r == 1 && state == Rig.WRITING) {
                    continue;
                }
                FieldRelay x = Rig.brought(r, state);
                Rig.loseAll(x);
                b.is("close in state " + state, x.close(r), state);
                b.relation("closed", x, r, Rig.CLOSED, 0, -1);
                b.is("not good", x.relation(r, 4), 0);
                b.is("no ticks", x.relation(r, 5), 0);
                b.is("not again", x.relation(r, 6), 0);
                if (state == Rig.SEEKING) {
                    b.wire("no ABORT for SEEK", x);
                } else {
                    b.wire("past SEEKING", x, Rig.ABORT);
                    b.frame("to its device", x, 0, Rig.ABORT, 1, 0, r);
                    Rig.drain(x);
                    b.is("the device is idle", x.device(r, 0), Rig.IDLE);
                }
                b.is("closed once", x.close(r), 0);
                b.is("nothing more is sent", x.count(3), 0);
            }
        }
    }

    private static void inputsBecomeZero(Bench b) {
        FieldRelay x = Rig.inData();
        Rig.cycle(x);
        b.data("got", x, 1, 0, 21, 0, 23, 24, 0, 0);
        x.close(0);
        b.data("closed", x, 1, 0, 0, 0, 0, 0, 0, 0);
        b.data("the device shows until it hears of it", x, 0, 0, 11, 12, 13, 0, 0, 0);
    }

    private static void theOtherOneStays(Bench b) {
        FieldRelay x = Rig.inData();
        Rig.connect(x, 1);
        Rig.cycle(x);
        x.close(0);
        Rig.drain(x);
        b.relation("relation 1", x, 1, Rig.R_DATA, 2, 1, 0, 1);
        b.is("device 1", x.device(1, 0), Rig.D_DATA);
        b.data("its inputs", x, 1, 1, 41, 42, 0, 0, 0, 0);
    }
}
