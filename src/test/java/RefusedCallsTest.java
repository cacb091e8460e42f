/** Calls that are refused, by their numbers or because it is not the time for them, change nothing at all. */
public final class RefusedCallsTest {
    private static final int RUNS = 120;
    private static final int CALLS = 300;

    private final Bench b;
    private final FieldRelay x;

    private RefusedCallsTest(Bench b, FieldRelay x) {
        this.b = b;
        this.x = x;
    }

    public static void main(String[] args) {
        Bench b = new Bench("refused calls");
        kindInEveryState(b);
        relationsInEveryState(b);
        for (int run = 0; run < RUNS; run++) {
            twins(b, run);
        }
        b.finish();
    }

    /** False if a RELATION is not CLOSED, or a DEVICE not IDLE. */
    private static void kindInEveryState(Bench b) {
        for (int r = 0; r < 2; r++) {
            for (int state = Rig.SEEKING; state <= Rig.R_DATA; state++) {
                FieldRelay x = Rig.alike(true);
                b.yes("all at rest", x.kind(0, 2, 2, true));
                Rig.bring(x, r, state);
                b.no("relation " + r + " in state " + state, x.kind(0, 0, 0, false));
                int device = x.device(1 - r, 0);
                x.close(r);
                b.is("device " + (1 - r) + " alone, in state " + device, x.kind(0, 2, 2, true) ? 1 : 0,
                        device == Rig.IDLE ? 1 : 0);
                Rig.drain(x);
                b.yes("all at rest again", x.kind(0, 2, 2, true));
            }
            FieldRelay x = Rig.alike(true);
            Rig.connect(x, r);
            x.close(r);
            b.is("in DATA alone", x.device(1 - r, 0), Rig.D_DATA);
            b.no("in DATA alone", x.kind(0, 0, 0, false));
        }
    }

    /** target and expect are false, open is NONE, if it is not CLOSED; the other RELATION does not matter. */
    private static void relationsInEveryState(Bench b) {
        for (int r = 0; r < 2; r++) {
            for (int state = Rig.CLOSED; state <= Rig.R_DATA; state++) {
                FieldRelay x = Rig.alike(true);
                if (state != Rig.CLOSED) {
                    Rig.bring(x, r, state);
                }
                int closed = state == Rig.CLOSED ? 1 : 0;
                b.is("target in state " + state, x.target(r, 4 - r) ? 1 : 0, closed);
                b.is("expect in state " + state, x.expect(r, 0, 0, 70) ? 1 : 0, closed);
                b.is("expect none in state " + state, x.expect(r, 2, -1, 0) ? 1 : 0, closed);
                b.yes("target of the other", x.target(1 - r, 1));
                b.yes("expect of the other", x.expect(1 - r, 0, 0, 70));
                b.is("open in state " + state, x.open(r), closed == 1 ? 1 : -2);
                b.is("open of the other", x.open(1 - r), 2);
            }
        }
    }

    /** Two objects get the same calls, one of them refused ones and questions as well: they stay alike. */
    private static void twins(Bench b, int run) {
        AnyCalls one = new AnyCalls(run);
        AnyCalls other = new AnyCalls(run);
        RefusedCallsTest refused = new RefusedCallsTest(b, one.x);
        boolean alike = true;
        for (int call = 0; call < CALLS; call++) {
            alike &= one.next(run % 3) == other.next(run % 3);
            refused.byNumbers();
            refused.byTheTime();
            alike &= Snapshot.of(one.x).isLike(Snapshot.of(other.x));
        }
        b.yes("twins stay alike, run " + run, alike);
    }

    private void byNumbers() {
        b.no("kind", x.kind(8, 1, 1, true) || x.kind(0, 3, 1, true) || x.kind(1, 1, -1, true));
        b.no("name", x.name(2, 1) || x.name(0, 16) || x.name(1, -1));
        b.no("plug", x.plug(-1, 0, 0) || x.plug(0, 3, 0) || x.plug(1, 2, 8) || x.plug(0, 0, -2));
        b.no("substitute", x.substitute(2, 0, 0) || x.substitute(0, 3, 0) || x.substitute(1, 2, 256));
        b.no("sense", x.sense(0, 3, 0, 1) || x.sense(0, 0, 2, 1) || x.sense(0, 0, 0, 256) || x.sense(1, 0, -1, 1));
        b.no("target", x.target(0, 0) || x.target(1, 16) || x.target(2, 1));
        b.no("expect", x.expect(0, 3, 0, 0) || x.expect(0, 0, 8, 0) || x.expect(1, 0, 0, 256) || x.expect(1, 0, -1, -1));
        b.no("give", x.give(0, 3, 0, 1) || x.give(0, 0, 2, 1) || x.give(0, 0, 0, 256) || x.give(1, 0, -1, 1));
        b.is("open and close", x.open(2) + x.open(-1) + x.close(2) + x.close(-1), -4);
        b.is("tick", x.tick(0) + x.tick(9) + x.tick(-1), -3);
        b.is("questions", x.relation(0, 7) + x.device(0, 9) + x.data(2, 0, 0, 0) + x.count(8), -4);
    }

    private void byTheTime() {
        int size = x.count(3);
        b.is("none there", x.deliver(size) + x.lose(size) + x.repeat(size) + x.frame(size, 0), -8);
        b.is("none there", x.deliver(-1) + x.lose(-1) + x.repeat(-1) + x.frame(-1, 11), -8);
        if (size == 16) {
            b.is("sixteen there", x.repeat(0), -2);
        }
        boolean rest = x.device(0, 0) == Rig.IDLE && x.device(1, 0) == Rig.IDLE;
        for (int r = 0; r < 2; r++) {
            if (x.relation(r, 0) != Rig.CLOSED) {
                rest = false;
                b.is("open", x.open(r), -2);
                b.no("target", x.target(r, 5));
                b.no("expect", x.expect(r, 1, 6, 200) || x.expect(r, 0, -1, 0));
            } else {
                b.is("close", x.close(r), 0);
            }
        }
        if (!rest) {
            b.no("kind", x.kind(0, 0, 0, true) || x.kind(1, 2, 2, false) || x.kind(2, 0, 2, true));
        }
    }
}
