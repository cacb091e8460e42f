import java.util.function.IntPredicate;
import java.util.function.IntUnaryOperator;

/** Every number of every call: the last that is in, the first that is out, on both sides; what is out changes nothing. */
public final class RangesTest {
    private final Bench b;
    private final FieldRelay x;

    private RangesTest(Bench b, FieldRelay x) {
        this.b = b;
        this.x = x;
    }

    public static void main(String[] args) {
        Bench b = new Bench("ranges");
        RangesTest atRest = new RangesTest(b, Rig.prepared());
        atRest.kind();
        atRest.name();
        atRest.plug();
        atRest.substitute();
        atRest.sense();
        atRest.target();
        atRest.expect();
        atRest.give();
        atRest.openAndClose();
        atRest.tick();
        RangesTest inData = new RangesTest(b, Rig.inData());
        inData.name();
        inData.plug();
        inData.substitute();
        inData.sense();
        inData.give();
        inData.tick();
        RangesTest questions = new RangesTest(b, Rig.inData());
        questions.relation();
        questions.device();
        questions.data();
        questions.count();
        for (int size = 0; size <= 16; size++) {
            wireOf(b, size);
        }
        for (int told = 0; told <= 10; told++) {
            alarmsOf(b, told);
        }
        b.finish();
    }

    private void range(String what, int low, int high, IntPredicate call) {
        for (int out : new int[] {low - 1, high + 1, Integer.MIN_VALUE, Integer.MAX_VALUE}) {
            Snapshot before = Snapshot.of(x);
            b.no(what + " with " + out, call.test(out));
            b.yes(what + " with " + out + " changes nothing", before.isLike(Snapshot.of(x)));
        }
        for (int in = low; in <= high; in++) {
            b.yes(what + " with " + in, call.test(in));
        }
    }

    private void range(String what, int low, int high, int refusal, IntUnaryOperator call) {
        for (int out : new int[] {low - 1, high + 1, Integer.MIN_VALUE, Integer.MAX_VALUE}) {
            Snapshot before = Snapshot.of(x);
            b.is(what + " with " + out, call.applyAsInt(out), refusal);
            b.yes(what + " with " + out + " changes nothing", before.isLike(Snapshot.of(x)));
        }
    }

    private void kind() {
        range("kind's k", 0, 7, k -> x.kind(k, 1, 1, false));
        range("kind's ins", 0, 2, ins -> x.kind(5, ins, 1, false));
        range("kind's outs", 0, 2, outs -> x.kind(5, 1, outs, true));
    }

    private void name() {
        range("name's d", 0, 1, d -> x.name(d, 1));
        range("name's name", 0, 15, name -> x.name(0, name));
        range("name's name", 0, 15, name -> x.name(1, name));
    }

    private void plug() {
        range("plug's d", 0, 1, d -> x.plug(d, 0, 1));
        range("plug's slot", 0, 2, slot -> x.plug(0, slot, 1));
        range("plug's k", -1, 7, k -> x.plug(0, 2, k));
        range("plug's k", -1, 7, k -> x.plug(1, 0, k));
    }

    private void substitute() {
        range("substitute's d", 0, 1, d -> x.substitute(d, 0, 0));
        range("substitute's what", 0, 2, what -> x.substitute(0, what, 0));
        range("substitute's v for 2", 0, 255, v -> x.substitute(1, 2, v));
        for (int any : new int[] {-1, 256, Integer.MIN_VALUE, Integer.MAX_VALUE}) {
            b.yes("v is not looked at for 0", x.substitute(0, 0, any));
            b.yes("v is not looked at for 1", x.substitute(1, 1, any));
        }
    }

    private void sense() {
        range("sense's d", 0, 1, d -> x.sense(d, 2, 1, 1));
        range("sense's slot", 0, 2, slot -> x.sense(1, slot, 0, 1));
        range("sense's i", 0, 1, i -> x.sense(0, 2, i, 1));
        range("sense's v", 0, 255, v -> x.sense(0, 0, 1, v));
    }

    private void target() {
        range("target's r", 0, 1, r -> x.target(r, 1));
        range("target's name", 1, 15, name -> x.target(0, name));
        range("target's name", 1, 15, name -> x.target(1, name));
    }

    private void expect() {
        range("expect's r", 0, 1, r -> x.expect(r, 0, 1, 1));
        range("expect's slot", 0, 2, slot -> x.expect(1, slot, 1, 1));
        range("expect's k", -1, 7, k -> x.expect(0, 2, k, 1));
        range("expect's parameter", 0, 255, v -> x.expect(0, 0, 1, v));
    }

    private void give() {
        range("give's r", 0, 1, r -> x.give(r, 2, 1, 1));
        range("give's slot", 0, 2, slot -> x.give(1, slot, 0, 1));
        range("give's i", 0, 1, i -> x.give(0, 2, i, 1));
        range("give's v", 0, 255, v -> x.give(0, 0, 1, v));
    }

    private void openAndClose() {
        range("open's r", 0, 1, -1, r -> x.open(r));
        range("close's r", 0, 1, -1, r -> x.close(r));
        for (int r = 0; r < 2; r++) {
            b.is("open(" + r + ")", x.open(r), r + 1);
            b.is("close(" + r + ")", x.close(r), Rig.SEEKING);
        }
        Rig.loseAll(x);
    }

    private void tick() {
        range("tick's n", 1, 8, -1, n -> x.tick(n));
        int ticks = x.count(0);
        for (int n = 1; n <= 8; n++) {
            b.yes("tick(" + n + ")", x.tick(n) >= 0);
            ticks += n;
            b.is("ticks", x.count(0), ticks);
            Rig.drain(x);
        }
    }

    private void relation() {
        range("relation's r", 0, 1, -1, r -> x.relation(r, 0));
        range("relation's what", 0, 6, -1, what -> x.relation(0, what));
        range("relation's what", 0, 6, -1, what -> x.relation(1, what));
        Rig.connect(x, 1);
        b.is("relation(1, 0)", x.relation(1, 0), Rig.R_DATA);
        b.is("relation(1, 6)", x.relation(1, 6), 0);
    }

    private void device() {
        range("device's d", 0, 1, -1, d -> x.device(d, 0));
        range("device's what", 0, 8, -1, what -> x.device(0, what));
        range("device's what", 0, 8, -1, what -> x.device(1, what));
        b.yes("device(1, 0)", x.device(1, 0) >= 0);
        b.yes("device(1, 8)", x.device(1, 8) >= 0);
    }

    private void data() {
        for (int side = 0; side < 2; side++) {
            int s = side;
            range("data's n", 0, 1, -1, n -> x.data(s, n, 0, 0));
            range("data's slot", 0, 2, -1, slot -> x.data(s, 1, slot, 1));
            range("data's i", 0, 1, -1, i -> x.data(s, 0, 2, i));
            b.yes("data(" + side + ", 1, 2, 1)", x.data(side, 1, 2, 1) >= 0);
        }
        range("data's side", 0, 1, -1, side -> x.data(side, 0, 0, 0));
    }

    private void count() {
        range("count's what", 0, 7, -1, what -> x.count(what));
        for (int what = 0; what <= 7; what++) {
            b.yes("count(" + what + ")", x.count(what) >= 0);
        }
    }

    private static FieldRelay withFrames(int size) {
        FieldRelay x = Rig.prepared();
        if (size > 0) {
            x.open(0);
            Rig.fill(x, size);
        }
        return x;
    }

    private static void wireOf(Bench b, int size) {
        RangesTest full = new RangesTest(b, withFrames(size));
        full.range("deliver's k of " + size, 0, size - 1, -2, k -> full.x.deliver(k));
        full.range("lose's k of " + size, 0, size - 1, -2, k -> full.x.lose(k));
        full.range("repeat's k of " + size, 0, size - 1, -2, k -> full.x.repeat(k));
        full.range("frame's k of " + size, 0, size - 1, -2, k -> full.x.frame(k, 0));
        full.range("frame's k of " + size + ", tested first", 0, size - 1, -2, k -> full.x.frame(k, 11));
        if (size == 0) {
            return;
        }
        full.range("frame's what", 0, 10, -1, what -> full.x.frame(size - 1, what));
        b.is("frame's last k of " + size, full.x.frame(size - 1, 0), Rig.SEEK);
        b.is("frame's last what", full.x.frame(size - 1, 10), 0);
        b.is("repeat's last k of " + size, withFrames(size).repeat(size - 1), size == 16 ? -2 : size + 1);
        b.is("lose's last k of " + size, withFrames(size).lose(size - 1), size - 1);
        b.is("deliver's last k of " + size, withFrames(size).deliver(size - 1), size);
    }

    private static void alarmsOf(Bench b, int told) {
        FieldRelay x = Rig.inData();
        for (int n = 0; n < told; n++) {
            x.plug(0, 0, n % 2 == 0 ? -1 : 0);
            Rig.cycle(x);
        }
        int kept = Math.min(told, 8);
        new RangesTest(b, x).range("alarms of " + told, 0, kept - 1, -2, k -> x.alarms(k));
        for (int k = 0; k < kept; k++) {
            b.is("alarms(" + k + ") of " + told, x.alarms(k), (told - 1 - k) % 2 == 0 ? 0 : 1);
        }
        b.is("told", x.count(6), told);
    }
}
