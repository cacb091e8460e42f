/** Promise 9: give. */
public final class GiveTest {
    public static void main(String[] args) {
        Bench b = new Bench("promise 9");
        FieldRelay x = Rig.prepared();
        for (int wrong : Rig.WRONG_PAIR) {
            b.no("give(" + wrong + ", 0, 0, 0)", x.give(wrong, 0, 0, 0));
            b.no("give(0, 0, " + wrong + ", 0)", x.give(0, 0, wrong, 0));
        }
        for (int wrong : new int[] {-1, 3, Integer.MIN_VALUE, Integer.MAX_VALUE}) {
            b.no("give(0, " + wrong + ", 0, 0)", x.give(0, wrong, 0, 0));
        }
        for (int wrong : new int[] {-1, 256, Integer.MIN_VALUE, Integer.MAX_VALUE}) {
            b.no("give(0, 0, 0, " + wrong + ")", x.give(0, 0, 0, wrong));
        }
        b.yes("give(0, 0, 0, 0)", x.give(0, 0, 0, 0));
        b.yes("give(0, 0, 1, 255)", x.give(0, 0, 1, 255));
        Rig.connect(x, 0);
        x.tick(1);
        b.frame("within the OUTS, 0 where it differs", x, 0, Rig.OUTPUT, 1, 0, 0, 0, 255, 13);
        b.yes("give(0, 1, 0, 100) in DATA", x.give(0, 1, 0, 100));
        b.is("what was sent stays", x.frame(0, 6), 13);
        x.give(0, 2, 0, 101);
        x.plug(0, 2, 0);
        Rig.drain(x);
        Rig.cycle(x);
        Rig.cycle(x);
        b.data("given before the slot was good", x, 0, 0, 0, 255, 100, 0, 101, 16);
        x.give(1, 0, 0, 50);
        Rig.connect(x, 1);
        x.tick(1);
        b.frame("relation 1 has its own", x, 1, Rig.OUTPUT, 2, 0, 1, 50);
        b.finish();
    }
}
