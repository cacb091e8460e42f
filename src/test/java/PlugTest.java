/** Promise 4: plug. */
public final class PlugTest {
    public static void main(String[] args) {
        Bench b = new Bench("promise 4");
        edges(b);
        modulesAreCompared(b);
        beforeDataNothingIsCompared(b);
        inDataSlotsDiffer(b);
        outputsAreSubstituted(b);
        theSameKindIsNoChange(b);
        slotsNotExpectedTellNothing(b);
        b.finish();
    }

    private static void edges(Bench b) {
        FieldRelay x = new FieldRelay();
        for (int wrong : Rig.WRONG_PAIR) {
            b.no("plug(" + wrong + ", 0, 0)", x.plug(wrong, 0, 0));
        }
        for (int wrong : new int[] {-1, 3, Integer.MIN_VALUE, Integer.MAX_VALUE}) {
            b.no("plug(0, " + wrong + ", 0)", x.plug(0, wrong, 0));
        }
        for (int wrong : new int[] {-2, 8, Integer.MIN_VALUE, Integer.MAX_VALUE}) {
            b.no("plug(0, 0, " + wrong + ")", x.plug(0, 0, wrong));
        }
        for (int k = -1; k <= 7; k++) {
            b.yes("plug(1, 2, " + k + ")", x.plug(1, 2, k));
        }
    }

    private static void modulesAreCompared(Bench b) {
        FieldRelay x = Rig.prepared();
        x.plug(0, 0, -1);
        x.plug(0, 1, 2);
        x.plug(0, 2, 0);
        x.plug(0, 2, 8);
        Rig.bring(x, 0, Rig.WRITING);
        b.is("slots 0 (none) and 1 (another) differ", x.device(0, 2), 3);
        b.is("the controller knows", x.relation(0, 3), 3);
    }

    private static void beforeDataNothingIsCompared(Bench b) {
        FieldRelay x = Rig.brought(0, Rig.WAITING);
        x.plug(0, 0, 3);
        x.plug(0, 1, 3);
        b.device("READYING, a change is no alarm", x, 0, Rig.READYING, 1, 4, 0, 0);
        Rig.drain(x);
        x.tick(1);
        b.frame("within the INS of the kind there", x, 1, Rig.INPUT, 1, 0, Rig.CONTROLLER, 21, 0, 23, 0, 0, 0, 3);
        Rig.drain(x);
        b.data("within the OUTS of the kind there", x, 0, 0, 11, 0, 13, 0, 0, 0);
        FieldRelay y = Rig.brought(0, Rig.WAITING);
        y.plug(0, 1, -1);
        Rig.drain(y);
        Rig.cycle(y);
        b.data("no module shows no outputs", y, 0, 0, 11, 12, 0, 0, 0, 0);
        b.data("no module has no inputs", y, 1, 0, 21, 0, 0, 0, 0, 0);
        b.is("it is good still", y.relation(0, 4), 3);
    }

    private static void inDataSlotsDiffer(Bench b) {
        FieldRelay x = Rig.inData();
        b.device("before", x, 0, Rig.D_DATA, 1, 4, 0, 0);
        x.plug(0, 1, -1);
        b.device("pulled", x, 0, Rig.D_DATA, 1, 6, 1, 0);
        x.plug(0, 2, 0);
        b.device("the right one plugged", x, 0, Rig.D_DATA, 1, 2, 2, 0);
        x.plug(0, 1, 1);
        b.device("back again", x, 0, Rig.D_DATA, 1, 0, 3, 0);
        x.tick(1);
        b.frame("all good", x, 2, Rig.INPUT, 1, 0, Rig.CONTROLLER, 21, 0, 23, 24, 25, 0, 7);
    }

    private static void outputsAreSubstituted(Bench b) {
        FieldRelay x = new FieldRelay();
        x.kind(2, 0, 2, false);
        x.plug(1, 0, 2);
        b.data("zeros, at any time", x, 0, 1, 0, 0, 0, 0, 0, 0);
        x.substitute(1, 2, 200);
        x.plug(1, 1, 2);
        x.plug(1, 2, 3);
        b.data("the octet, within the OUTS", x, 0, 1, 0, 0, 200, 200, 200, 0);
        x.substitute(1, 1, 0);
        x.plug(1, 1, 3);
        b.data("what they were, within the OUTS", x, 0, 1, 0, 0, 200, 0, 200, 0);
        x.plug(1, 2, -1);
        b.data("none without a module", x, 0, 1, 0, 0, 200, 0, 0, 0);
        x.plug(1, 1, 2);
        b.data("what was beyond is 0 still", x, 0, 1, 0, 0, 200, 0, 0, 0);
    }

    private static void theSameKindIsNoChange(Bench b) {
        FieldRelay x = Rig.inData();
        Rig.cycle(x);
        x.plug(0, 0, 0);
        b.data("shown as before", x, 0, 0, 11, 12, 13, 0, 0, 0);
        b.device("no alarm", x, 0, Rig.D_DATA, 1, 4, 0, 0);
        x.plug(0, 2, -1);
        x.plug(0, 2, -1);
        b.is("pulled once", x.device(0, 3), 1);
    }

    private static void slotsNotExpectedTellNothing(Bench b) {
        FieldRelay x = Rig.prepared();
        Rig.connect(x, 1);
        x.substitute(1, 2, 7);
        x.plug(1, 1, 2);
        b.device("not expected", x, 1, Rig.D_DATA, 1, 0, 0, 0);
        Rig.cycle(x);
        b.data("substituted, then left alone", x, 0, 1, 31, 0, 7, 0, 0, 0);
    }
}
