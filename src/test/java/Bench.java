/** Compares answers with what is due, and says at the end whether all were right. */
final class Bench {
    private final String title;
    private int compared;
    private int wrong;

    Bench(String title) {
        this.title = title;
    }

    void is(String what, long got, long due) {
        compared++;
        if (got != due) {
            wrong++;
            System.out.println(title + ": " + what + " answered " + got + ", due is " + due);
        }
    }

    void yes(String what, boolean got) {
        is(what, got ? 1 : 0, 1);
    }

    void no(String what, boolean got) {
        is(what, got ? 1 : 0, 0);
    }

    /** Types of all frames on the wire, in their order. */
    void wire(String what, FieldRelay x, int... types) {
        is(what + ": frames on the wire", x.count(3), types.length);
        for (int k = 0; k < types.length; k++) {
            is(what + ": type of frame " + k, x.frame(k, 0), types[k]);
        }
        is(what + ": no frame behind them", x.frame(types.length, 0), FieldRelay.NONE);
    }

    /** Type, session, number, where it goes, then the row; octets not named are due as 0. */
    void frame(String what, FieldRelay x, int k, int... due) {
        for (int i = 0; i <= 10; i++) {
            is(what + ": frame(" + k + ", " + i + ")", x.frame(k, i), i < due.length ? due[i] : 0);
        }
    }

    /** The six outputs that a device shows (side 0), or inputs that a relation got (side 1). */
    void data(String what, FieldRelay x, int side, int n, int... due) {
        for (int p = 0; p < 6; p++) {
            is(what + ": data(" + side + ", " + n + ", " + p / 2 + ", " + p % 2 + ")",
                    x.data(side, n, p / 2, p % 2), due[p]);
        }
    }

    /** Relation what 0, 1, 2 ... in this order. */
    void relation(String what, FieldRelay x, int r, int... due) {
        for (int i = 0; i < due.length; i++) {
            is(what + ": relation(" + r + ", " + i + ")", x.relation(r, i), due[i]);
        }
    }

    /** Device what 0, 1, 2 ... in this order. */
    void device(String what, FieldRelay x, int d, int... due) {
        for (int i = 0; i < due.length; i++) {
            is(what + ": device(" + d + ", " + i + ")", x.device(d, i), due[i]);
        }
    }

    void finish() {
        System.out.println(title + ": " + compared + " answers, " + wrong + " wrong");
        if (wrong != 0 || compared == 0) {
            System.exit(1);
        }
    }
}
