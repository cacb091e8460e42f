/** Promise 20: alarms. */
public final class AlarmsTest {
    public static void main(String[] args) {
        Bench b = new Bench("promise 20");
        latestEight(b);
        bothRelations(b);
        toldOnce(b);
        toldAgainInANewSession(b);
        notToldWhenClosed(b);
        b.finish();
    }

    private static void latestEight(Bench b) {
        FieldRelay x = Rig.inData();
        b.is("none", x.alarms(0), -2);
        int[] told = new int[10];
        for (int n = 0; n < 10; n++) {
            int slot = n % 3;
            int k = n == 4 ? -1 : 7 - n % 6;
            x.plug(0, slot, k);
            Rig.cycle(x);
            told[n] = 16 * slot + k + 1;
            for (int back = 0; back < 8; back++) {
                b.is("alarms(" + back + ")", x.alarms(back), back <= n ? told[n - back] : -2);
            }
            b.is("told", x.count(6), n + 1);
        }
        for (int wrong : new int[] {-1, 8, 9, Integer.MIN_VALUE, Integer.MAX_VALUE}) {
            b.is("alarms(" + wrong + ")", x.alarms(wrong), -2);
        }
    }

    private static void bothRelations(Bench b) {
        FieldRelay x = Rig.inData();
        Rig.connect(x, 1);
        x.plug(0, 2, 7);
        x.plug(1, 0, -1);
        Rig.cycle(x);
        b.is("relation 1, slot 0, none", x.alarms(0), 64);
        b.is("relation 0, slot 2, kind 7", x.alarms(1), 40);
        b.is("no more", x.alarms(2), -2);
        b.is("slots of relation 1", x.relation(1, 3), 1);
    }

    private static void toldOnce(Bench b) {
        FieldRelay x = Rig.inData();
        x.plug(0, 0, -1);
        x.tick(1);
        x.repeat(1);
        x.deliver(1);
        b.is("told", x.alarms(0), 0);
        int sent = x.count(1);
        x.deliver(Rig.find(x, Rig.ALARM));
        b.is("taken once more", x.count(1), sent + 1);
        b.frame("TAKEN", x, x.count(3) - 1, Rig.TAKEN, 1, 1, 0);
        b.is("not told once more", x.count(6), 1);
        b.is("not told once more", x.alarms(1), -2);
        lateOnesAreToldByTheirNumber(b);
    }

    /** Only the number told last counts, so an older one that comes late is told again. */
    private static void lateOnesAreToldByTheirNumber(Bench b) {
        FieldRelay x = Rig.inData();
        x.plug(0, 0, -1);
        x.plug(0, 0, 0);
        x.tick(1);
        x.repeat(1);
        x.deliver(1);
        Rig.deliverType(x, Rig.TAKEN);
        x.tick(1);
        int newer = x.count(3) - 2;
        b.frame("the second", x, newer, Rig.ALARM, 1, 2, Rig.CONTROLLER, 0, 1);
        x.deliver(newer);
        b.is("slots", x.relation(0, 3), 4);
        Rig.deliverType(x, Rig.ALARM);
        b.is("the first, late", x.alarms(0), 0);
        b.is("three told", x.count(6), 3);
        b.is("slots go by it", x.relation(0, 3), 5);
    }

    private static void toldAgainInANewSession(Bench b) {
        FieldRelay x = Rig.inData();
        x.plug(0, 0, -1);
        Rig.cycle(x);
        x.close(0);
        Rig.drain(x);
        Rig.connect(x, 0);
        x.plug(0, 1, 6);
        Rig.cycle(x);
        b.is("number 1 of session 2", x.alarms(0), 23);
        b.is("that of session 1 is kept", x.alarms(1), 0);
        b.is("told", x.count(6), 2);
    }

    private static void notToldWhenClosed(Bench b) {
        FieldRelay x = Rig.inData();
        x.plug(0, 0, -1);
        x.tick(1);
        x.close(0);
        int sent = x.count(1);
        Rig.deliverType(x, Rig.ALARM);
        b.is("no TAKEN", x.count(1), sent);
        b.is("not told", x.alarms(0), -2);
        x.open(0);
        b.is("slots of the new session", x.relation(0, 3), 0);
    }
}
