/** The smallest and the largest numbers that are in go all the way: names, kinds, slots, octets, ins and outs. */
public final class LastValuesTest {
    public static void main(String[] args) {
        Bench b = new Bench("last values");
        names(b);
        kinds(b);
        insAndOuts(b);
        slotsAndPlaces(b);
        octets(b);
        parameters(b);
        substitutes(b);
        b.finish();
    }

    /** NAME 0..15, 0: none; SEEK for its NAME (not 0); target 1..15. */
    private static void names(Bench b) {
        for (int name : new int[] {1, 15}) {
            FieldRelay x = new FieldRelay();
            x.name(1, name);
            x.target(0, name);
            x.open(0);
            b.frame("SEEK", x, 0, Rig.SEEK, 0, name, Rig.BOTH);
            x.deliver(0);
            b.frame("FOUND", x, 0, Rig.FOUND, 0, 1, Rig.CONTROLLER, name);
            x.deliver(0);
            b.relation("name " + name, x, 0, Rig.CONNECTING, 1, 1);
            x.close(0);
            Rig.loseAll(x);
            x.name(1, 0);
            x.open(0);
            b.is("no name any more", x.deliver(0), 0);
            x.name(1, name == 1 ? 2 : 14);
            x.tick(4);
            b.is("a name beside it", x.deliver(0), 0);
        }
    }

    /** KINDS 0..7: in CONNECT as KIND + 1, in ALARM and alarms as KIND + 1, none as 0. */
    private static void kinds(Bench b) {
        for (int k : new int[] {-1, 0, 7}) {
            FieldRelay x = new FieldRelay();
            x.name(0, 1);
            x.target(0, 1);
            x.plug(0, 0, k);
            x.plug(0, 2, 3);
            x.expect(0, 0, k, 0);
            x.expect(0, 2, 3, 0);
            Rig.bring(x, 0, Rig.CONNECTING);
            b.frame("CONNECT", x, 0, Rig.CONNECT, 1, 0, 0, k + 1, 0, 4);
            Rig.drain(x);
            b.is("none differs", x.relation(0, 3), 0);
            x.plug(0, 2, k);
            x.tick(1);
            b.frame("ALARM", x, 1, Rig.ALARM, 1, 1, Rig.CONTROLLER, 2, k + 1);
            Rig.drain(x);
            b.is("alarms", x.alarms(0), 32 + k + 1);
            b.is("slot 2 differs", x.relation(0, 3), 4);
        }
    }

    /** 0..2 OCTETS each: those beyond are 0 on the wire, and at both ends. */
    private static void insAndOuts(Bench b) {
        for (int n = 0; n <= 2; n++) {
            FieldRelay x = new FieldRelay();
            x.kind(0, n, 2 - n, false);
            x.kind(7, 2 - n, n, false);
            prepare(x, 0, 7);
            Rig.connect(x, 0);
            x.tick(1);
            int[] first = {101, 102};
            int[] second = {105, 106};
            b.frame("OUTPUT", x, 0, Rig.OUTPUT, 1, 0, 0, upTo(2 - n, first, 0), upTo(2 - n, first, 1), 0, 0,
                    upTo(n, second, 0), upTo(n, second, 1));
            b.frame("INPUT", x, 1, Rig.INPUT, 1, 0, Rig.CONTROLLER, upTo(n, first, 0), upTo(n, first, 1), 0, 0,
                    upTo(2 - n, second, 0), upTo(2 - n, second, 1), 5);
            Rig.drain(x);
            b.data("outputs", x, 0, 0, upTo(2 - n, first, 0), upTo(2 - n, first, 1), 0, 0, upTo(n, second, 0),
                    upTo(n, second, 1));
            b.data("inputs", x, 1, 0, upTo(n, first, 0), upTo(n, first, 1), 0, 0, upTo(2 - n, second, 0),
                    upTo(2 - n, second, 1));
        }
    }

    private static int upTo(int count, int[] values, int i) {
        return i < count ? values[i] : 0;
    }

    /** Slot 0 has a module of one kind, slot 2 of another, slot 1 none; each place gives and senses its own octet. */
    private static void prepare(FieldRelay x, int first, int last) {
        x.name(0, 1);
        x.target(0, 1);
        x.plug(0, 0, first);
        x.plug(0, 2, last);
        x.expect(0, 0, first, 0);
        x.expect(0, 2, last, 0);
        for (int p = 0; p < 6; p++) {
            x.give(0, p / 2, p % 2, 101 + p);
            x.sense(0, p / 2, p % 2, 101 + p);
        }
    }

    /** SLOTS 0..2, two OUTPUTS and two INPUTS for each: every place has its own octet. */
    private static void slotsAndPlaces(Bench b) {
        for (int r = 0; r < 2; r++) {
            FieldRelay x = Rig.alike(true);
            for (int p = 0; p < 6; p++) {
                x.give(r, p / 2, p % 2, 1 + p);
                x.sense(1 - r, p / 2, p % 2, 11 + p);
            }
            Rig.connect(x, r);
            Rig.cycle(x);
            b.data("outputs", x, 0, 1 - r, 1, 2, 3, 4, 5, 6);
            b.data("inputs", x, 1, r, 11, 12, 13, 14, 15, 16);
            b.data("the other device", x, 0, r, 0, 0, 0, 0, 0, 0);
            b.data("the other relation", x, 1, 1 - r, 0, 0, 0, 0, 0, 0);
            b.is("all good", x.relation(r, 4), 7);
        }
    }

    /** OCTETS are 0..255. */
    private static void octets(Bench b) {
        FieldRelay x = Rig.alike(false);
        x.give(0, 0, 0, 255);
        x.give(0, 2, 1, 255);
        x.sense(0, 0, 0, 255);
        x.sense(0, 2, 1, 255);
        Rig.connect(x, 0);
        Rig.cycle(x);
        b.data("255 out", x, 0, 0, 255, 0, 0, 0, 0, 255);
        b.data("255 in", x, 1, 0, 255, 0, 0, 0, 0, 255);
        x.give(0, 0, 0, 0);
        x.sense(0, 2, 1, 0);
        Rig.cycle(x);
        b.data("0 out", x, 0, 0, 0, 0, 0, 0, 0, 255);
        b.data("0 in", x, 1, 0, 255, 0, 0, 0, 0, 0);
    }

    /** A PARAMETER is an OCTET; one that was written as 0 is no lack of one. */
    private static void parameters(Bench b) {
        FieldRelay x = Rig.alike(false);
        x.expect(0, 0, 0, 0);
        x.expect(0, 1, 0, 255);
        Rig.bring(x, 0, Rig.WRITING);
        b.frame("WRITE of 0", x, 0, Rig.WRITE, 1, 0, 0, 0);
        x.deliver(0);
        b.device("0 is written", x, 0, Rig.CONNECTED, 1, 0, 0, 0, 0, -1, -1, 0);
        x.deliver(0);
        b.frame("WRITE of 255", x, 0, Rig.WRITE, 1, 1, 0, 255);
        Rig.drain(x);
        b.device("in DATA with them", x, 0, Rig.D_DATA, 1, 0, 0, 0, 0, 255, 72, 0);
    }

    private static void substitutes(Bench b) {
        for (int octet : new int[] {0, 255}) {
            FieldRelay x = Rig.alike(false);
            x.substitute(1, 2, octet);
            for (int p = 0; p < 6; p++) {
                x.give(1, p / 2, p % 2, 1 + p);
            }
            Rig.connect(x, 1);
            Rig.cycle(x);
            b.data("given", x, 0, 1, 1, 2, 3, 4, 5, 6);
            x.close(1);
            Rig.drain(x);
            b.data("substituted", x, 0, 1, octet, octet, octet, octet, octet, octet);
        }
    }
}
