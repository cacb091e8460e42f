/** What is empty: no name, no modules, nothing expected, no ins and outs, no parameter, nothing that differs. */
public final class NothingThereTest {
    public static void main(String[] args) {
        Bench b = new Bench("nothing there");
        noNameToLookFor(b);
        nobodyHasTheName(b);
        nothingExpected(b);
        nothingPlugged(b);
        noInsAndOuts(b);
        parametersNeededInNoneSomeAndAll(b);
        parametersNotNeededWhereItDiffers(b);
        endWithAParameterLacking(b);
        endInDataAsksForNone(b);
        theExpectedKindNeedsIt(b);
        b.finish();
    }

    private static void noNameToLookFor(Bench b) {
        FieldRelay x = new FieldRelay();
        x.target(1, 1);
        Snapshot before = Snapshot.of(x);
        b.is("open(0)", x.open(0), -2);
        b.yes("it changes nothing", before.isLike(Snapshot.of(x)));
        b.is("open(1)", x.open(1), 1);
    }

    private static void nobodyHasTheName(Bench b) {
        FieldRelay x = new FieldRelay();
        x.target(0, 1);
        x.open(0);
        b.is("devices without a name do not answer", x.deliver(0), 0);
        b.is("SEEKING", x.relation(0, 0), Rig.SEEKING);
    }

    /** Modules are there, but none is expected: DATA goes to and fro with zeros alone. */
    private static void nothingExpected(Bench b) {
        FieldRelay x = Rig.alike(false);
        for (int slot = 0; slot < 3; slot++) {
            x.expect(0, slot, -1, 0);
            x.give(0, slot, 0, 5);
            x.sense(0, slot, 0, 6);
        }
        Rig.bring(x, 0, Rig.CONNECTING);
        b.frame("CONNECT", x, 0, Rig.CONNECT, 1, 0, 0);
        x.deliver(0);
        b.frame("none differs", x, 0, Rig.ACCEPT, 1, 0, Rig.CONTROLLER);
        x.deliver(0);
        b.wire("no parameter", x, Rig.END);
        Rig.drain(x);
        x.tick(1);
        b.frame("OUTPUT", x, 0, Rig.OUTPUT, 1, 0, 0);
        b.frame("INPUT", x, 1, Rig.INPUT, 1, 0, Rig.CONTROLLER);
        Rig.drain(x);
        b.relation("none good", x, 0, Rig.R_DATA, 1, 0, 0, 0, 0, 0);
        b.is("the watch is kept", x.device(0, 8), 0);
    }

    private static void nothingPlugged(Bench b) {
        FieldRelay x = Rig.alike(false);
        for (int slot = 0; slot < 3; slot++) {
            x.plug(0, slot, -1);
        }
        Rig.bring(x, 0, Rig.CONNECTING);
        x.deliver(0);
        b.frame("all differ", x, 0, Rig.ACCEPT, 1, 7, Rig.CONTROLLER);
        x.deliver(0);
        b.wire("no parameter", x, Rig.END);
        Rig.drain(x);
        Rig.cycle(x);
        b.relation("none good", x, 0, Rig.R_DATA, 1, 0, 7, 0, 0, 0);
    }

    private static void noInsAndOuts(Bench b) {
        FieldRelay x = new FieldRelay();
        x.kind(3, 0, 0, false);
        x.name(0, 1);
        x.target(0, 1);
        x.plug(0, 1, 3);
        x.expect(0, 1, 3, 0);
        x.give(0, 1, 0, 5);
        x.sense(0, 1, 0, 6);
        x.substitute(0, 2, 7);
        Rig.connect(x, 0);
        Rig.cycle(x);
        b.data("no outputs", x, 0, 0, 0, 0, 0, 0, 0, 0);
        b.data("no inputs", x, 1, 0, 0, 0, 0, 0, 0, 0);
        b.is("but it is good", x.relation(0, 4), 2);
        x.close(0);
        Rig.drain(x);
        b.data("nothing to substitute", x, 0, 0, 0, 0, 0, 0, 0, 0);
    }

    /** WRITE for the first one, the next one, none (more): every set of the three slots. */
    private static void parametersNeededInNoneSomeAndAll(Bench b) {
        for (int needed = 0; needed < 8; needed++) {
            FieldRelay x = Rig.alike(false);
            for (int slot = 0; slot < 3; slot++) {
                int k = (needed >> slot & 1) != 0 ? 0 : 1;
                x.plug(0, slot, k);
                x.expect(0, slot, k, 70 + slot);
            }
            Rig.bring(x, 0, Rig.CONNECTING);
            x.deliver(0);
            x.deliver(0);
            for (int slot = 0; slot < 3; slot++) {
                if ((needed >> slot & 1) != 0) {
                    b.frame("WRITE", x, 0, Rig.WRITE, 1, slot, 0, 70 + slot);
                    b.is("WRITING", x.relation(0, 0), Rig.WRITING);
                    x.deliver(0);
                    x.deliver(0);
                }
            }
            b.wire("none more", x, Rig.END);
            b.is("ENDING", x.relation(0, 0), Rig.ENDING);
            Rig.drain(x);
            b.device("in DATA", x, 0, Rig.D_DATA, 1, 0, 0, 0, written(needed, 0), written(needed, 1),
                    written(needed, 2));
        }
    }

    private static int written(int needed, int slot) {
        return (needed >> slot & 1) != 0 ? 70 + slot : -1;
    }

    private static void parametersNotNeededWhereItDiffers(Bench b) {
        for (int differing = 0; differing < 8; differing++) {
            FieldRelay x = Rig.alike(false);
            for (int slot = 0; slot < 3; slot++) {
                if ((differing >> slot & 1) != 0) {
                    x.plug(0, slot, slot == 1 ? -1 : 7);
                }
            }
            Rig.connect(x, 0);
            b.device("in DATA", x, 0, Rig.D_DATA, 1, differing, 0, 0, written(7 - differing, 0),
                    written(7 - differing, 1), written(7 - differing, 2));
            b.is("the relation knows", x.relation(0, 3), differing);
        }
    }

    /** END, CONNECTED: if a slot got none: ABORT. The late CONNECT forgets those of the first n slots. */
    private static void endWithAParameterLacking(Bench b) {
        for (int forgotten = 0; forgotten <= 3; forgotten++) {
            FieldRelay x = Rig.alike(false);
            Rig.bring(x, 0, Rig.CONNECTING);
            x.repeat(0);
            x.deliver(0);
            x.deliver(1);
            for (int slot = 0; slot < 3; slot++) {
                if (slot == forgotten && forgotten > 0) {
                    deliverLateConnect(x);
                }
                x.deliver(x.count(3) - 1);
                x.deliver(x.count(3) - 1);
            }
            if (forgotten == 3) {
                deliverLateConnect(x);
            }
            Rig.deliverType(x, Rig.END);
            b.is("forgotten: " + forgotten, x.device(0, 0), forgotten == 0 ? Rig.READYING : Rig.IDLE);
            b.is("answer", x.frame(x.count(3) - 1, 0), forgotten == 0 ? Rig.READY : Rig.ABORT);
        }
    }

    /** In DATA a slot may become good without a parameter; END once more does not ask for it. */
    private static void endInDataAsksForNone(Bench b) {
        FieldRelay x = Rig.alike(false);
        x.plug(0, 2, 7);
        Rig.bring(x, 0, Rig.ENDING);
        x.repeat(0);
        x.deliver(0);
        while (x.count(3) > 1) {
            x.deliver(1);
        }
        x.plug(0, 2, 0);
        b.device("none written in slot 2", x, 0, Rig.D_DATA, 1, 0, 1, 0, 70, 71, -1, 0);
        b.wire("END once more", x, Rig.END);
        b.is("is not answered", x.deliver(0), 0);
        b.device("and changes nothing", x, 0, Rig.D_DATA, 1, 0, 1, 0, 70, 71, -1, 0);
    }

    /** With an EXPECTED KIND that needs one: what was plugged behind CONNECT does not matter. */
    private static void theExpectedKindNeedsIt(Bench b) {
        FieldRelay x = Rig.alike(false);
        Rig.bring(x, 0, Rig.CONNECTING);
        x.repeat(0);
        x.deliver(0);
        for (int i = 0; i < 7; i++) {
            x.deliver(1);
        }
        deliverLateConnect(x);
        for (int slot = 0; slot < 3; slot++) {
            x.plug(0, slot, 5);
        }
        b.device("nothing is written", x, 0, Rig.CONNECTED, 1, 0, 0, 0, -1, -1, -1);
        x.deliver(0);
        b.wire("END lacks them", x, Rig.ABORT);
        FieldRelay y = Rig.alike(false);
        for (int slot = 0; slot < 3; slot++) {
            y.plug(0, slot, 5);
            y.expect(0, slot, 5, 0);
        }
        Rig.bring(y, 0, Rig.ENDING);
        for (int slot = 0; slot < 3; slot++) {
            y.plug(0, slot, 0);
        }
        y.deliver(0);
        b.wire("END lacks none", y, Rig.ENDED, Rig.READY);
    }

    /** Its ACCEPT, which would come late as well, is lost. */
    private static void deliverLateConnect(FieldRelay x) {
        Rig.deliverType(x, Rig.CONNECT);
        x.lose(Rig.find(x, Rig.ACCEPT));
    }
}
