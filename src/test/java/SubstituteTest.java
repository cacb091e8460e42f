/** Promise 5: substitute. */
public final class SubstituteTest {
    public static void main(String[] args) {
        Bench b = new Bench("promise 5");
        edges(b);
        behindData(b);
        notBehindOtherStates(b);
        notAtOnce(b);
        refusalsChangeNothing(b);
        eachDeviceHasItsOwn(b);
        b.finish();
    }

    private static void edges(Bench b) {
        FieldRelay x = new FieldRelay();
        for (int wrong : Rig.WRONG_PAIR) {
            b.no("substitute(" + wrong + ", 0, 0)", x.substitute(wrong, 0, 0));
        }
        for (int wrong : new int[] {-1, 3, Integer.MIN_VALUE, Integer.MAX_VALUE}) {
            b.no("substitute(0, " + wrong + ", 0)", x.substitute(0, wrong, 0));
        }
        for (int wrong : new int[] {-1, 256, Integer.MIN_VALUE, Integer.MAX_VALUE}) {
            b.no("substitute(0, 2, " + wrong + ")", x.substitute(0, 2, wrong));
            b.yes("substitute(0, 0, " + wrong + ")", x.substitute(0, 0, wrong));
            b.yes("substitute(0, 1, " + wrong + ")", x.substitute(0, 1, wrong));
        }
        b.yes("substitute(1, 2, 0)", x.substitute(1, 2, 0));
        b.yes("substitute(1, 2, 255)", x.substitute(1, 2, 255));
    }

    private static FieldRelay lostBy(int way, int what, int v) {
        FieldRelay x = Rig.inData();
        Rig.cycle(x);
        x.substitute(0, what, v);
        if (way == 0) {
            x.tick(4);
        } else {
            x.close(0);
            Rig.drain(x);
        }
        return x;
    }

    private static void behindData(Bench b) {
        for (int way = 0; way < 2; way++) {
            b.data("zeros", lostBy(way, 0, 5), 0, 0, 0, 0, 0, 0, 0, 0);
            b.data("what they were", lostBy(way, 1, 5), 0, 0, 11, 12, 13, 0, 0, 0);
            b.data("an octet, in all slots", lostBy(way, 2, 255), 0, 0, 255, 255, 255, 0, 255, 0);
            b.is("idle", lostBy(way, 2, 5).device(0, 0), Rig.IDLE);
        }
        FieldRelay x = Rig.inData();
        x.plug(0, 0, -1);
        x.substitute(0, 2, 5);
        x.tick(4);
        b.data("0 without a module", x, 0, 0, 0, 0, 5, 0, 5, 0);
    }

    private static void notBehindOtherStates(Bench b) {
        FieldRelay x = Rig.brought(0, Rig.WAITING);
        x.substitute(0, 2, 5);
        x.close(0);
        Rig.drain(x);
        b.is("idle behind READYING", x.device(0, 0), Rig.IDLE);
        b.data("nothing was lost", x, 0, 0, 0, 0, 0, 0, 0, 0);
    }

    private static void notAtOnce(Bench b) {
        FieldRelay x = Rig.inData();
        Rig.cycle(x);
        x.substitute(0, 2, 5);
        b.data("as given", x, 0, 0, 11, 12, 13, 0, 0, 0);
        x.tick(4);
        x.substitute(0, 0, 0);
        b.data("as substituted before", x, 0, 0, 5, 5, 5, 0, 5, 0);
    }

    private static void refusalsChangeNothing(Bench b) {
        FieldRelay x = new FieldRelay();
        x.substitute(0, 2, 5);
        x.substitute(0, 2, 256);
        x.substitute(0, 3, 0);
        x.plug(0, 0, 0);
        b.is("the octet of before", x.data(0, 0, 0, 0), 5);
    }

    private static void eachDeviceHasItsOwn(Bench b) {
        FieldRelay x = new FieldRelay();
        x.substitute(0, 2, 5);
        x.substitute(1, 2, 6);
        x.plug(0, 0, 0);
        x.plug(1, 0, 0);
        b.is("device 0", x.data(0, 0, 0, 0), 5);
        b.is("device 1", x.data(0, 1, 0, 0), 6);
    }
}
