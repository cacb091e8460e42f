/** Promise 17: relation. */
public final class RelationTest {
    public static void main(String[] args) {
        Bench b = new Bench("promise 17");
        edges(b);
        everyState(b);
        slotsThatDiffer(b);
        goodSlots(b);
        aNewSessionBeginsAfresh(b);
        b.finish();
    }

    private static void edges(Bench b) {
        FieldRelay x = Rig.inData();
        for (int wrong : Rig.WRONG_PAIR) {
            b.is("relation(" + wrong + ", 0)", x.relation(wrong, 0), -1);
        }
        for (int wrong : new int[] {-1, 7, Integer.MIN_VALUE, Integer.MAX_VALUE}) {
            b.is("relation(0, " + wrong + ")", x.relation(0, wrong), -1);
        }
    }

    private static void everyState(Bench b) {
        FieldRelay x = Rig.prepared();
        x.open(1);
        x.close(1);
        x.lose(0);
        for (int state = Rig.SEEKING; state <= Rig.R_DATA; state++) {
            FieldRelay y = Rig.brought(0, state);
            y.tick(3);
            int differ = state >= Rig.WRITING ? 4 : 0;
            b.relation("3 ticks", y, 0, state, 1, state == Rig.SEEKING ? -1 : 0, differ, 0, 3, 0);
            if (state < Rig.WAITING) {
                y.tick(2);
                b.relation("5 ticks", y, 0, state, 1, state == Rig.SEEKING ? -1 : 0, differ, 0, 1, 1);
            }
        }
        Rig.bring(x, 0, Rig.WRITING);
        b.relation("session 2", x, 0, Rig.WRITING, 2, 0, 4, 0, 0, 0);
        b.relation("the other one", x, 1, Rig.CLOSED, 0, -1, 0, 0, 0, 0);
        FieldRelay z = Rig.brought(0, Rig.ENDING);
        z.tick(5);
        b.is("sent again once", z.relation(0, 6), 1);
        Rig.deliverType(z, Rig.END);
        Rig.deliverType(z, Rig.ENDED);
        b.relation("waiting counts anew", z, 0, Rig.WAITING, 1, 0, 4, 0, 0, 0);
    }

    private static void slotsThatDiffer(Bench b) {
        FieldRelay x = Rig.inData();
        x.plug(0, 2, 0);
        x.plug(0, 0, -1);
        x.tick(1);
        b.is("as ACCEPT said", x.relation(0, 3), 4);
        Rig.deliverType(x, Rig.ALARM);
        b.is("slot 2 does not any more", x.relation(0, 3), 0);
        Rig.drain(x);
        x.tick(1);
        Rig.deliverType(x, Rig.ALARM);
        b.is("slot 0 does", x.relation(0, 3), 1);
        Rig.drain(x);
        x.tick(1);
        b.frame("outputs go by that", x, 0, Rig.OUTPUT, 1, 2, 0, 0, 0, 13, 0, 15, 16);
    }

    private static void goodSlots(Bench b) {
        FieldRelay x = Rig.inData();
        b.is("no INPUT yet", x.relation(0, 4), 0);
        Rig.cycle(x);
        b.is("slots 0 and 1", x.relation(0, 4), 3);
        x.plug(0, 1, -1);
        b.is("as the latest INPUT said", x.relation(0, 4), 3);
        x.tick(1);
        Rig.deliverType(x, Rig.ALARM);
        b.is("an ALARM does not say it", x.relation(0, 4), 3);
        Rig.deliverType(x, Rig.INPUT);
        b.is("an INPUT does", x.relation(0, 4), 1);
        x.close(0);
        b.is("not in DATA", x.relation(0, 4), 0);
    }

    private static void aNewSessionBeginsAfresh(Bench b) {
        FieldRelay x = Rig.inData();
        Rig.cycle(x);
        x.close(0);
        b.relation("closed; the slots were not said to become 0", x, 0, Rig.CLOSED, 0, -1, 4, 0, 0, 0);
        Rig.drain(x);
        x.open(0);
        b.relation("seeking", x, 0, Rig.SEEKING, 2, -1, 0, 0, 0, 0);
        Rig.drain(x);
        b.relation("in DATA", x, 0, Rig.R_DATA, 2, 0, 4, 0, 0, 0);
        x.tick(1);
        b.is("the counter begins at 0", x.frame(0, 2), 0);
        b.is("the counter begins at 0", x.frame(1, 2), 0);
        Rig.drain(x);
        b.is("none was taken in this DATA", x.relation(0, 4), 3);
        b.is("none was taken in this DATA", x.data(0, 0, 0, 0), 11);
    }
}
