/** Long runs of calls in any order with any arguments: no call fails, and what always holds does hold. */
public final class RandomRunsTest {
    private static final int RUNS = 1500;
    private static final int CALLS = 512;

    private int relationStates;
    private int deviceStates;

    public static void main(String[] args) {
        Bench b = new Bench("random runs");
        RandomRunsTest seen = new RandomRunsTest();
        for (int run = 0; run < RUNS; run++) {
            AnyCalls one = new AnyCalls(run);
            AnyCalls same = new AnyCalls(run);
            boolean held = true;
            boolean alike = true;
            for (int call = 0; call < CALLS; call++) {
                alike &= one.next(run % 3) == same.next(run % 3);
                held &= seen.holds(one.x);
            }
            b.yes("what always holds, run " + run, held);
            b.yes("the same calls, the same answers, run " + run, alike);
        }
        b.is("states that relations reached", seen.relationStates, 127);
        b.is("states that devices reached", seen.deviceStates, 15);
        b.finish();
    }

    private boolean holds(FieldRelay x) {
        boolean ok = x.count(3) >= 0 && x.count(3) <= 16 && x.frame(x.count(3), 0) == -2;
        for (int n = 0; n < 2; n++) {
            ok &= relationHolds(x, n) && deviceHolds(x, n);
        }
        return ok && (x.relation(0, 1) == 0 || x.relation(0, 1) != x.relation(1, 1));
    }

    private boolean relationHolds(FieldRelay x, int r) {
        int state = x.relation(r, 0);
        relationStates |= 1 << state;
        boolean ok = (state == Rig.CLOSED) == (x.relation(r, 1) == 0);
        ok &= (state <= Rig.SEEKING) == (x.relation(r, 2) == -1);
        ok &= x.relation(r, 4) == 0 || state == Rig.R_DATA;
        ok &= x.relation(r, 5) <= (state == Rig.WAITING ? 11 : 3) && x.relation(r, 6) <= 2;
        for (int p = 0; p < 6; p++) {
            int got = x.data(1, r, p / 2, p % 2);
            ok &= got >= 0 && got <= 255 && (got == 0 || state == Rig.R_DATA);
        }
        return ok;
    }

    private boolean deviceHolds(FieldRelay x, int d) {
        int state = x.device(d, 0);
        deviceStates |= 1 << state;
        boolean ok = (state == Rig.IDLE) == (x.device(d, 1) == 0);
        ok &= state == Rig.D_DATA || x.device(d, 3) == 0 && x.device(d, 4) == 0;
        ok &= x.device(d, 3) <= 4 && (x.device(d, 4) == 0 || x.device(d, 3) > 0);
        ok &= x.device(d, 8) <= new int[] {0, 15, 2, 3}[state];
        for (int p = 0; p < 6; p++) {
            int shown = x.data(0, d, p / 2, p % 2);
            ok &= shown >= 0 && shown <= 255;
        }
        return ok;
    }
}
