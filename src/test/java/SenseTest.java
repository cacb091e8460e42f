/** Promise 6: sense. */
public final class SenseTest {
    public static void main(String[] args) {
        Bench b = new Bench("promise 6");
        FieldRelay x = Rig.prepared();
        for (int wrong : Rig.WRONG_PAIR) {
            b.no("sense(" + wrong + ", 0, 0, 0)", x.sense(wrong, 0, 0, 0));
            b.no("sense(0, 0, " + wrong + ", 0)", x.sense(0, 0, wrong, 0));
        }
        for (int wrong : new int[] {-1, 3, Integer.MIN_VALUE, Integer.MAX_VALUE}) {
            b.no("sense(0, " + wrong + ", 0, 0)", x.sense(0, wrong, 0, 0));
        }
        for (int wrong : new int[] {-1, 256, Integer.MIN_VALUE, Integer.MAX_VALUE}) {
            b.no("sense(0, 0, 0, " + wrong + ")", x.sense(0, 0, 0, wrong));
        }
        b.yes("sense(0, 1, 0, 0)", x.sense(0, 1, 0, 0));
        b.yes("sense(0, 1, 1, 255)", x.sense(0, 1, 1, 255));
        Rig.connect(x, 0);
        x.tick(1);
        b.frame("the inputs", x, 1, Rig.INPUT, 1, 0, Rig.CONTROLLER, 21, 0, 0, 255, 0, 0, 3);
        b.yes("sense(0, 0, 0, 99) in DATA", x.sense(0, 0, 0, 99));
        b.is("what was sent stays", x.frame(1, 4), 21);
        Rig.drain(x);
        b.is("the controller got what was sent", x.data(1, 0, 0, 0), 21);
        x.plug(0, 2, 0);
        x.plug(0, 2, -1);
        x.sense(0, 2, 0, 1);
        x.plug(0, 2, 0);
        Rig.cycle(x);
        b.data("a slot without a module can be sensed", x, 1, 0, 99, 0, 0, 255, 1, 0);
        b.finish();
    }
}
