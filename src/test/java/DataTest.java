/** Promise 19: data. */
public final class DataTest {
    public static void main(String[] args) {
        Bench b = new Bench("promise 19");
        edges(b);
        toAndFro(b);
        slotsThatAreNotGood(b);
        bothSidesOfBoth(b);
        b.finish();
    }

    private static void edges(Bench b) {
        FieldRelay x = Rig.inData();
        for (int wrong : Rig.WRONG_PAIR) {
            b.is("data(" + wrong + ", 0, 0, 0)", x.data(wrong, 0, 0, 0), -1);
            b.is("data(0, " + wrong + ", 0, 0)", x.data(0, wrong, 0, 0), -1);
            b.is("data(1, 0, 0, " + wrong + ")", x.data(1, 0, 0, wrong), -1);
            b.is("data(0, 0, 2, " + wrong + ")", x.data(0, 0, 2, wrong), -1);
        }
        for (int wrong : new int[] {-1, 3, Integer.MIN_VALUE, Integer.MAX_VALUE}) {
            b.is("data(0, 0, " + wrong + ", 0)", x.data(0, 0, wrong, 0), -1);
            b.is("data(1, 0, " + wrong + ", 0)", x.data(1, 0, wrong, 0), -1);
        }
    }

    private static void toAndFro(Bench b) {
        FieldRelay x = Rig.prepared();
        x.plug(0, 2, 0);
        Rig.connect(x, 0);
        b.data("nothing yet", x, 0, 0, 0, 0, 0, 0, 0, 0);
        x.tick(1);
        b.data("nothing yet", x, 1, 0, 0, 0, 0, 0, 0, 0);
        x.deliver(0);
        b.data("outputs", x, 0, 0, 11, 12, 13, 0, 15, 16);
        b.data("inputs are under way", x, 1, 0, 0, 0, 0, 0, 0, 0);
        x.deliver(0);
        b.data("inputs", x, 1, 0, 21, 0, 23, 24, 25, 0);
        x.give(0, 0, 0, 0);
        x.sense(0, 1, 1, 0);
        b.data("shown until the next OUTPUT", x, 0, 0, 11, 12, 13, 0, 15, 16);
        Rig.cycle(x);
        b.data("outputs", x, 0, 0, 0, 12, 13, 0, 15, 16);
        b.data("inputs", x, 1, 0, 21, 0, 23, 0, 25, 0);
    }

    private static void slotsThatAreNotGood(Bench b) {
        FieldRelay x = Rig.prepared();
        x.plug(0, 2, 0);
        Rig.connect(x, 0);
        Rig.cycle(x);
        x.substitute(0, 2, 99);
        x.plug(0, 0, 1);
        b.data("substituted", x, 0, 0, 99, 0, 13, 0, 15, 16);
        x.tick(1);
        Rig.deliverType(x, Rig.OUTPUT);
        b.data("an OUTPUT does not go to a slot that differs", x, 0, 0, 99, 0, 13, 0, 15, 16);
        Rig.deliverType(x, Rig.INPUT);
        b.data("nor come inputs from it", x, 1, 0, 0, 0, 23, 24, 25, 0);
        Rig.drain(x);
        x.plug(0, 0, 0);
        b.data("substituted again", x, 0, 0, 99, 99, 13, 0, 15, 16);
        x.tick(1);
        Rig.deliverType(x, Rig.OUTPUT);
        b.data("zeros while the controller does not know", x, 0, 0, 0, 0, 13, 0, 15, 16);
        Rig.drain(x);
        Rig.cycle(x);
        b.data("as given", x, 0, 0, 11, 12, 13, 0, 15, 16);
        b.data("as sensed", x, 1, 0, 21, 0, 23, 24, 25, 0);
    }

    private static void bothSidesOfBoth(Bench b) {
        FieldRelay x = Rig.inData();
        Rig.connect(x, 1);
        Rig.cycle(x);
        b.data("device 0", x, 0, 0, 11, 12, 13, 0, 0, 0);
        b.data("device 1", x, 0, 1, 31, 0, 0, 0, 0, 0);
        b.data("relation 0", x, 1, 0, 21, 0, 23, 24, 0, 0);
        b.data("relation 1", x, 1, 1, 41, 42, 0, 0, 0, 0);
        FieldRelay y = Rig.prepared();
        y.target(1, 3);
        y.expect(1, 2, 1, 0);
        Rig.connect(y, 1);
        Rig.cycle(y);
        b.data("relation 1 is with device 0", y, 0, 0, 0, 0, 0, 0, 35, 0);
        b.data("relation 1 is with device 0", y, 1, 1, 0, 0, 0, 0, 25, 26);
        b.data("relation 0 got none", y, 1, 0, 0, 0, 0, 0, 0, 0);
        y.close(1);
        b.data("closed", y, 1, 1, 0, 0, 0, 0, 0, 0);
    }
}
