/** Calls in any order with any numbers, the same for the same seed. */
final class AnyCalls {
    private static final int[] ODD = {Integer.MIN_VALUE, -3, -2, 9, 16, 17, 256, 65536, Integer.MAX_VALUE};

    final FieldRelay x = new FieldRelay();
    private long seed;

    AnyCalls(long seed) {
        this.seed = seed;
    }

    private int below(int n) {
        seed = seed * 6364136223846793005L + 1442695040888963407L;
        return (int) ((seed >>> 33) % n);
    }

    private int number(int low, int high) {
        return below(60) == 0 ? ODD[below(ODD.length)] : low + below(high - low + 1);
    }

    /** Calls that bring frames on their way come more often, so that DATA is reached. */
    long next(int manner) {
        int pick = below(100);
        if (pick < 55) {
            return wireCall(pick, manner);
        }
        if (pick < 80) {
            return question(pick);
        }
        return change(pick);
    }

    private long wireCall(int pick, int manner) {
        if (pick < 38) {
            return x.deliver(below(manner + 1) < 2 ? 0 : number(0, 15));
        }
        if (pick < 41) {
            return x.lose(number(0, 15));
        }
        if (pick < 44) {
            return x.repeat(number(0, 15));
        }
        return pick < 52 ? x.tick(number(1, 1 + manner)) : x.tick(number(0, 9));
    }

    private long question(int pick) {
        switch (pick % 6) {
            case 0: return x.frame(number(-1, 16), number(-1, 11));
            case 1: return x.relation(number(-1, 2), number(-1, 7));
            case 2: return x.device(number(-1, 2), number(-1, 9));
            case 3: return x.data(number(-1, 2), number(-1, 2), number(-1, 3), number(-1, 2));
            case 4: return x.alarms(number(-1, 8));
            default: return x.count(number(-1, 8));
        }
    }

    private long change(int pick) {
        switch (pick) {
            case 80: return flag(x.kind(number(0, 7), number(0, 2), number(0, 2), below(2) == 0));
            case 81: return flag(x.name(number(0, 1), number(1, 2)));
            case 82: return flag(x.substitute(number(0, 1), number(0, 2), number(0, 255)));
            case 83: case 84: return flag(x.sense(number(0, 1), number(0, 2), number(0, 1), number(0, 255)));
            case 85: case 86: return flag(x.target(number(0, 1), number(1, 2)));
            case 87: case 88: return flag(x.expect(number(0, 1), number(0, 2), number(-1, 2), number(0, 255)));
            case 89: case 90: return flag(x.give(number(0, 1), number(0, 2), number(0, 1), number(0, 255)));
            case 91: return below(4) == 0 ? x.close(number(0, 1)) : 0;
            case 92: case 93: case 94: return flag(x.plug(number(0, 1), number(0, 2), number(-1, 2)));
            default: return x.open(number(0, 1));
        }
    }

    private static long flag(boolean b) {
        return b ? 1 : 0;
    }
}
