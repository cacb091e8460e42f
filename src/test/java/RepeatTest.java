/** Promise 14: repeat. */
public final class RepeatTest {
    public static void main(String[] args) {
        Bench b = new Bench("promise 14");
        FieldRelay x = Rig.inData();
        b.is("repeat(0) of none", x.repeat(0), -2);
        x.tick(1);
        int sent = x.count(1);
        for (int wrong : new int[] {-1, 2, 16, Integer.MIN_VALUE, Integer.MAX_VALUE}) {
            b.is("repeat(" + wrong + ")", x.repeat(wrong), -2);
        }
        b.is("repeat(1)", x.repeat(1), 3);
        b.frame("the copy", x, 2, Rig.INPUT, 1, 0, Rig.CONTROLLER, 21, 0, 23, 24, 0, 0, 3);
        b.frame("the first", x, 1, Rig.INPUT, 1, 0, Rig.CONTROLLER, 21, 0, 23, 24, 0, 0, 3);
        b.is("repeat(0)", x.repeat(0), 4);
        b.frame("the copy", x, 3, Rig.OUTPUT, 1, 0, 0, 11, 12, 13);
        x.lose(0);
        b.frame("a copy is a frame of its own", x, 2, Rig.OUTPUT, 1, 0, 0, 11, 12, 13);
        Rig.fill(x, 15);
        b.is("the sixteenth", x.repeat(14), 16);
        b.is("no seventeenth", x.repeat(0), -2);
        b.is("nor of one that is not there", x.repeat(16), -2);
        b.is("sixteen", x.count(3), 16);
        b.is("a repeated frame is not sent", x.count(1), sent);
        b.is("nor lost for want of room", x.count(2), 0);
        copiesAreDelivered(b);
        b.finish();
    }

    private static void copiesAreDelivered(Bench b) {
        FieldRelay x = Rig.prepared();
        x.open(0);
        x.repeat(0);
        x.deliver(0);
        x.deliver(0);
        b.wire("each SEEK is answered", x, Rig.FOUND, Rig.FOUND);
        b.is("delivered", x.count(4), 2);
    }
}
