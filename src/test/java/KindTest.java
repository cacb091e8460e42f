/** Promise 2: kind. */
public final class KindTest {
    public static void main(String[] args) {
        Bench b = new Bench("promise 2");
        edges(b);
        insOutsAndParameterHold(b);
        refusalsChangeNothing(b);
        onlyAtRest(b);
        shownOutputsStay(b);
        b.finish();
    }

    private static void edges(Bench b) {
        FieldRelay x = new FieldRelay();
        b.yes("kind(0, 0, 0, false)", x.kind(0, 0, 0, false));
        b.yes("kind(7, 2, 2, true)", x.kind(7, 2, 2, true));
        for (int wrong : new int[] {-1, 8, Integer.MIN_VALUE, Integer.MAX_VALUE}) {
            b.no("kind(" + wrong + ", 1, 1, false)", x.kind(wrong, 1, 1, false));
        }
        for (int wrong : new int[] {-1, 3, Integer.MIN_VALUE, Integer.MAX_VALUE}) {
            b.no("kind(0, " + wrong + ", 1, false)", x.kind(0, wrong, 1, false));
            b.no("kind(0, 1, " + wrong + ", false)", x.kind(0, 1, wrong, false));
        }
    }

    private static FieldRelay withKind(int ins, int outs, boolean parameter) {
        FieldRelay x = new FieldRelay();
        x.kind(7, ins, outs, parameter);
        x.name(0, 15);
        x.target(0, 15);
        x.plug(0, 2, 7);
        x.expect(0, 2, 7, 88);
        for (int i = 0; i < 2; i++) {
            x.sense(0, 2, i, 51 + i);
            x.give(0, 2, i, 61 + i);
        }
        return x;
    }

    private static void insOutsAndParameterHold(Bench b) {
        for (int ins = 0; ins <= 2; ins++) {
            for (int outs = 0; outs <= 2; outs++) {
                FieldRelay x = withKind(ins, outs, (ins + outs) % 2 == 1);
                Rig.connect(x, 0);
                b.is("parameter", x.device(0, 7), (ins + outs) % 2 == 1 ? 88 : -1);
                Rig.cycle(x);
                b.data("outs " + outs, x, 0, 0, 0, 0, 0, 0, outs > 0 ? 61 : 0, outs > 1 ? 62 : 0);
                b.data("ins " + ins, x, 1, 0, 0, 0, 0, 0, ins > 0 ? 51 : 0, ins > 1 ? 52 : 0);
            }
        }
    }

    private static void refusalsChangeNothing(Bench b) {
        FieldRelay x = withKind(2, 1, true);
        b.no("wrong ins", x.kind(7, 3, 2, false));
        b.no("wrong outs", x.kind(7, 1, -1, false));
        Rig.bring(x, 0, Rig.WRITING);
        b.no("not at rest", x.kind(7, 0, 2, false));
        Rig.drain(x);
        Rig.cycle(x);
        b.is("parameter still needed", x.device(0, 7), 88);
        b.data("outs as before", x, 0, 0, 0, 0, 0, 0, 61, 0);
        b.data("ins as before", x, 1, 0, 0, 0, 0, 0, 51, 52);
    }

    private static void onlyAtRest(Bench b) {
        FieldRelay x = Rig.prepared();
        for (int r = 0; r < 2; r++) {
            x.open(r);
            b.no("relation " + r + " is seeking", x.kind(5, 1, 1, false));
            x.close(r);
            b.yes("relation " + r + " is closed", x.kind(5, 1, 1, false));
            Rig.loseAll(x);
        }
        for (int d = 0; d < 2; d++) {
            FieldRelay y = Rig.brought(d, Rig.CONNECTING);
            y.deliver(0);
            y.close(d);
            b.is("device " + d + " is connected", y.device(d, 0), Rig.CONNECTED);
            b.no("device " + d + " is connected", y.kind(5, 1, 1, false));
            Rig.drain(y);
            b.yes("device " + d + " is idle", y.kind(5, 1, 1, false));
        }
    }

    private static void shownOutputsStay(Bench b) {
        FieldRelay x = new FieldRelay();
        x.substitute(0, 2, 9);
        x.plug(0, 0, 3);
        b.yes("kind(3, 0, 0, false)", x.kind(3, 0, 0, false));
        b.data("what is shown changes with the module alone", x, 0, 0, 9, 0, 0, 0, 0, 0);
    }
}
