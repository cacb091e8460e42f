/** Promise 21: count. */
public final class CountTest {
    public static void main(String[] args) {
        Bench b = new Bench("promise 21");
        FieldRelay x = Rig.prepared();
        for (int wrong : new int[] {-1, 8, Integer.MIN_VALUE, Integer.MAX_VALUE}) {
            b.is("count(" + wrong + ")", x.count(wrong), -1);
        }
        counts(b, "set up", x, 0, 0, 0, 0, 0, 0, 0, 0);
        x.open(0);
        counts(b, "opened", x, 0, 1, 0, 1, 0, 1, 0, 0);
        Rig.drain(x);
        counts(b, "in DATA", x, 0, 10, 0, 0, 10, 1, 0, 0);
        x.open(1);
        Rig.drain(x);
        counts(b, "both in DATA", x, 0, 18, 0, 0, 18, 2, 0, 0);
        x.tick(2);
        counts(b, "two cycles", x, 2, 26, 0, 8, 18, 2, 0, 0);
        x.lose(7);
        x.repeat(0);
        x.repeat(0);
        counts(b, "lost and repeated", x, 2, 26, 0, 9, 18, 2, 0, 0);
        x.tick(2);
        counts(b, "all four watches end it", x, 4, 34, 1, 16, 18, 2, 0, 4);
        x.close(0);
        x.tick(9);
        x.deliver(16);
        x.lose(-1);
        x.open(2);
        counts(b, "what is refused does not count", x, 4, 34, 1, 16, 18, 2, 0, 4);
        alarmsTold(b);
        b.finish();
    }

    private static void alarmsTold(Bench b) {
        FieldRelay x = Rig.inData();
        for (int n = 1; n <= 12; n++) {
            x.plug(0, 0, n % 2 == 0 ? 0 : -1);
            Rig.cycle(x);
            b.is("alarms told", x.count(6), n);
        }
    }

    private static void counts(Bench b, String what, FieldRelay x, int... due) {
        for (int i = 0; i < due.length; i++) {
            b.is(what + ": count(" + i + ")", x.count(i), due[i]);
        }
    }
}
