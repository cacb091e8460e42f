/** Promise 13: lose. */
public final class LoseTest {
    public static void main(String[] args) {
        Bench b = new Bench("promise 13");
        FieldRelay x = Rig.prepared();
        b.is("lose(0) of none", x.lose(0), -2);
        x.open(0);
        x.open(1);
        x.repeat(0);
        for (int wrong : new int[] {-1, 3, 16, Integer.MIN_VALUE, Integer.MAX_VALUE}) {
            b.is("lose(" + wrong + ")", x.lose(wrong), -2);
        }
        b.is("lose(1)", x.lose(1), 2);
        b.frame("the first stays", x, 0, Rig.SEEK, 0, 3, Rig.BOTH);
        b.frame("the third is second now", x, 1, Rig.SEEK, 0, 3, Rig.BOTH);
        b.is("lose(1)", x.lose(1), 1);
        b.is("lose(0)", x.lose(0), 0);
        b.is("lose(0) of none", x.lose(0), -2);
        b.is("none was delivered", x.count(4), 0);
        b.is("none was lost for want of room", x.count(2), 0);
        b.is("sent", x.count(1), 2);
        b.is("nothing was brought about", x.relation(0, 0), Rig.SEEKING);
        whatWasLostDoesNotComeBack(b);
        b.finish();
    }

    private static void whatWasLostDoesNotComeBack(Bench b) {
        FieldRelay x = Rig.inData();
        x.tick(3);
        b.is("lose(1), an INPUT", x.lose(1), 5);
        b.wire("the order stays", x, Rig.OUTPUT, Rig.OUTPUT, Rig.INPUT, Rig.OUTPUT, Rig.INPUT);
        b.is("counter", x.frame(0, 2), 0);
        b.is("counter", x.frame(1, 2), 1);
        b.is("counter", x.frame(2, 2), 1);
        x.tick(1);
        b.frame("a frame sent later has its own row", x, 5, Rig.ABORT, 1, 0, 0);
    }
}
