/** Promise 8: expect. */
public final class ExpectTest {
    public static void main(String[] args) {
        Bench b = new Bench("promise 8");
        edges(b);
        expectedKindsGoWithConnect(b);
        parametersAreWritten(b);
        onlyWhenClosed(b);
        b.finish();
    }

    private static void edges(Bench b) {
        FieldRelay x = new FieldRelay();
        for (int wrong : Rig.WRONG_PAIR) {
            b.no("expect(" + wrong + ", 0, 0, 0)", x.expect(wrong, 0, 0, 0));
        }
        for (int wrong : new int[] {-1, 3, Integer.MIN_VALUE, Integer.MAX_VALUE}) {
            b.no("expect(0, " + wrong + ", 0, 0)", x.expect(0, wrong, 0, 0));
        }
        for (int wrong : new int[] {-2, 8, Integer.MIN_VALUE, Integer.MAX_VALUE}) {
            b.no("expect(0, 0, " + wrong + ", 0)", x.expect(0, 0, wrong, 0));
        }
        for (int wrong : new int[] {-1, 256, Integer.MIN_VALUE, Integer.MAX_VALUE}) {
            b.no("expect(0, 0, 0, " + wrong + ")", x.expect(0, 0, 0, wrong));
            b.no("expect(0, 0, -1, " + wrong + ")", x.expect(0, 0, -1, wrong));
        }
        b.yes("expect(1, 2, 7, 255)", x.expect(1, 2, 7, 255));
        b.yes("expect(1, 0, -1, 0)", x.expect(1, 0, -1, 0));
    }

    private static void expectedKindsGoWithConnect(Bench b) {
        FieldRelay x = Rig.prepared();
        x.expect(0, 0, 7, 0);
        x.expect(0, 1, -1, 0);
        x.expect(0, 2, 3, 0);
        x.expect(0, 2, 8, 0);
        x.expect(0, 2, 1, 256);
        Rig.bring(x, 0, Rig.CONNECTING);
        b.frame("kinds + 1", x, 0, Rig.CONNECT, 1, 0, 0, 8, 0, 4);
        x.deliver(0);
        b.frame("0 and 2 differ", x, 0, Rig.ACCEPT, 1, 5, Rig.CONTROLLER);
    }

    private static void parametersAreWritten(Bench b) {
        FieldRelay x = Rig.prepared();
        x.plug(0, 1, 0);
        x.plug(0, 2, 0);
        x.expect(0, 0, 0, 0);
        x.expect(0, 1, 0, 255);
        x.expect(0, 2, 0, 128);
        x.expect(0, 2, 0, -1);
        Rig.connect(x, 0);
        b.device("written", x, 0, Rig.D_DATA, 1, 0, 0, 0, 0, 255, 128, 0);
    }

    private static void onlyWhenClosed(Bench b) {
        FieldRelay x = Rig.prepared();
        x.open(0);
        for (int i = 0; i < 12; i++) {
            b.no("not CLOSED", x.expect(0, 0, 1, 1));
            x.deliver(0);
        }
        b.is("in DATA", x.relation(0, 0), Rig.R_DATA);
        b.is("parameter as before", x.device(0, 5), 77);
        b.is("slots as before", x.relation(0, 3), 4);
        b.yes("the other relation is CLOSED", x.expect(1, 0, 1, 1));
        x.close(0);
        b.yes("CLOSED again", x.expect(0, 0, 1, 1));
    }
}
