/** Promise 7: target. */
public final class TargetTest {
    public static void main(String[] args) {
        Bench b = new Bench("promise 7");
        FieldRelay x = new FieldRelay();
        for (int wrong : Rig.WRONG_PAIR) {
            b.no("target(" + wrong + ", 1)", x.target(wrong, 1));
        }
        for (int wrong : new int[] {0, -1, 16, Integer.MIN_VALUE, Integer.MAX_VALUE}) {
            b.no("target(0, " + wrong + ")", x.target(0, wrong));
        }
        b.is("no name yet", x.open(0), -2);
        for (int name = 1; name <= 15; name++) {
            b.yes("target(1, " + name + ")", x.target(1, name));
            x.open(1);
            b.frame("it is looked for", x, 0, Rig.SEEK, 0, name, Rig.BOTH);
            b.no("target(1, 1) when not CLOSED", x.target(1, 1));
            x.lose(0);
            x.tick(4);
            b.is("sent again with the old name", x.frame(0, 2), name);
            x.close(1);
            x.lose(0);
        }
        x.target(1, 0);
        x.target(1, 16);
        x.open(1);
        b.is("refusals change nothing", x.frame(0, 2), 15);
        FieldRelay y = Rig.inData();
        b.no("target(0, 3) in DATA", y.target(0, 3));
        b.yes("target(1, 3), the other one", y.target(1, 3));
        b.finish();
    }
}
