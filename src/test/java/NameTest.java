/** Promise 3: name. */
public final class NameTest {
    public static void main(String[] args) {
        Bench b = new Bench("promise 3");
        FieldRelay x = new FieldRelay();
        for (int wrong : Rig.WRONG_PAIR) {
            b.no("name(" + wrong + ", 1)", x.name(wrong, 1));
        }
        for (int wrong : new int[] {-1, 16, Integer.MIN_VALUE, Integer.MAX_VALUE}) {
            b.no("name(0, " + wrong + ")", x.name(0, wrong));
        }
        for (int name = 0; name <= 15; name++) {
            b.yes("name(0, " + name + ")", x.name(0, name));
            b.yes("name(1, " + name + ")", x.name(1, name));
        }
        b.no("a wrong name keeps the old one", x.name(0, 16));
        x.target(0, 15);
        x.open(0);
        b.is("both have the name", x.deliver(0), 2);
        b.frame("device 0 first", x, 0, Rig.FOUND, 0, 0, Rig.CONTROLLER, 15);
        b.frame("then device 1", x, 1, Rig.FOUND, 0, 1, Rig.CONTROLLER, 15);
        anotherNameAtAnyTime(b);
        b.finish();
    }

    private static void anotherNameAtAnyTime(Bench b) {
        FieldRelay x = Rig.inData();
        b.yes("a new name in DATA", x.name(0, 9));
        b.is("the relation stays", x.relation(0, 0), Rig.R_DATA);
        x.name(1, 0);
        x.open(1);
        b.is("no device has name 4 now", x.deliver(0), 0);
        x.close(1);
        x.target(1, 9);
        x.open(1);
        b.is("a device in DATA answers by its new name", x.deliver(0), 1);
        b.frame("it is found", x, 0, Rig.FOUND, 0, 0, Rig.CONTROLLER, 9);
    }
}
