import java.util.Arrays;

/** All that can be asked of an object, so that two moments or two objects can be compared. */
final class Snapshot {
    private final int[] answers = new int[400];
    private int size;

    private Snapshot() {
    }

    static Snapshot of(FieldRelay x) {
        Snapshot s = new Snapshot();
        for (int k = 0; k <= 16; k++) {
            for (int what = 0; what <= 10; what++) {
                s.add(x.frame(k, what));
            }
        }
        for (int n = 0; n < 2; n++) {
            for (int what = 0; what <= 6; what++) {
                s.add(x.relation(n, what));
            }
            for (int what = 0; what <= 8; what++) {
                s.add(x.device(n, what));
            }
            for (int p = 0; p < 12; p++) {
                s.add(x.data(p / 6, n, p / 2 % 3, p % 2));
            }
        }
        for (int n = 0; n < 8; n++) {
            s.add(x.alarms(n));
            s.add(x.count(n));
        }
        return s;
    }

    boolean isLike(Snapshot other) {
        return size == other.size && Arrays.equals(answers, other.answers);
    }

    private void add(int answer) {
        answers[size] = answer;
        size++;
    }
}
