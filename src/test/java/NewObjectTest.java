/** Promise 1: a new object. */
public final class NewObjectTest {
    public static void main(String[] args) {
        Bench b = new Bench("promise 1");
        FieldRelay x = new FieldRelay();
        b.is("REFUSED", FieldRelay.REFUSED, -1);
        b.is("NONE", FieldRelay.NONE, -2);
        b.wire("empty wire", x);
        for (int n = 0; n < 2; n++) {
            b.relation("new", x, n, 0, 0, -1, 0, 0, 0, 0);
            b.device("new", x, n, 0, 0, 0, 0, 0, -1, -1, -1, 0);
            b.data("new", x, 0, n, 0, 0, 0, 0, 0, 0);
            b.data("new", x, 1, n, 0, 0, 0, 0, 0, 0);
        }
        for (int what = 0; what < 8; what++) {
            b.is("count(" + what + ")", x.count(what), 0);
        }
        b.is("alarms(0)", x.alarms(0), -2);
        b.is("open(0) looks for no name", x.open(0), -2);
        noNamesAreThere(b);
        allKindsHaveOneEachAndNeedNone(b);
        noModulesAreThere(b);
        objectsAreApart(b);
        b.finish();
    }

    private static void noNamesAreThere(Bench b) {
        FieldRelay x = new FieldRelay();
        for (int name = 1; name <= 15; name++) {
            x.target(0, name);
            x.open(0);
            b.is("seek for name " + name + " finds none", x.deliver(0), 0);
            x.close(0);
        }
    }

    private static void allKindsHaveOneEachAndNeedNone(Bench b) {
        for (int k = 0; k < 8; k++) {
            FieldRelay x = new FieldRelay();
            x.name(0, 1);
            x.target(0, 1);
            x.plug(0, 0, k);
            x.expect(0, 0, k, 9);
            for (int i = 0; i < 2; i++) {
                x.sense(0, 0, i, 50 + i);
                x.give(0, 0, i, 60 + i);
            }
            Rig.bring(x, 0, Rig.ENDING);
            b.wire("kind " + k + " needs no parameter", x, Rig.END);
            Rig.drain(x);
            Rig.cycle(x);
            b.data("kind " + k, x, 0, 0, 60, 0, 0, 0, 0, 0);
            b.data("kind " + k, x, 1, 0, 50, 0, 0, 0, 0, 0);
        }
    }

    private static void noModulesAreThere(Bench b) {
        FieldRelay x = new FieldRelay();
        x.name(1, 1);
        x.target(0, 1);
        for (int slot = 0; slot < 3; slot++) {
            x.expect(0, slot, slot, 0);
        }
        Rig.bring(x, 0, Rig.ENDING);
        b.is("all expected slots differ", x.device(1, 2), 7);
        b.is("all expected slots differ", x.relation(0, 3), 7);
        FieldRelay y = new FieldRelay();
        y.name(1, 1);
        y.target(0, 1);
        y.open(0);
        y.deliver(0);
        y.deliver(0);
        b.frame("nothing is expected", y, 0, Rig.CONNECT, 1, 0, 1);
        y.deliver(0);
        b.is("none differs", y.device(1, 2), 0);
    }

    private static void objectsAreApart(Bench b) {
        FieldRelay x = Rig.inData();
        FieldRelay y = new FieldRelay();
        x.tick(1);
        b.is("the other object's wire", y.count(3), 0);
        b.is("the other object's ticks", y.count(0), 0);
        b.is("the other object's state", y.relation(0, 0), 0);
    }
}
