import java.util.Arrays;

/** A controller and two devices on a wire that may lose, delay and repeat frames; see README.md. */
public final class FieldRelay {
    public static final int REFUSED = -1, NONE = -2;

    private static final int DEVICES = 2;
    private static final int SLOTS = 3;
    private static final int KINDS = 8;
    private static final int PER_SLOT = 2;
    private static final int DATA_OCTETS = SLOTS * PER_SLOT;
    private static final int NO_KIND = -1;
    private static final int MAX_NAME = 15;
    private static final int MAX_OCTET = 255;
    private static final int MAX_SESSION = 65535;
    private static final int MAX_TICKS_A_CALL = 8;
    private static final int WATCH_LIMIT = 4;

    private static final int SEEK = 1, FOUND = 2, CONNECT = 3, ACCEPT = 4, REFUSE = 5, WRITE = 6, WRITTEN = 7;
    private static final int END = 8, ENDED = 9, READY = 10, GO = 11, OUTPUT = 12, INPUT = 13;
    private static final int ALARM = 14, TAKEN = 15, ABORT = 16;

    private static final int CONTROLLER = 2, BOTH_DEVICES = 3;

    private final KindTable kinds;
    private final Wire wire;
    private final AlarmLog log;
    private final Relation[] relations;
    private final Device[] devices;
    private int session;
    private int ticks;
    private int delivered;
    private int sessionsBegun;

    public FieldRelay() {
        kinds = new KindTable();
        wire = new Wire();
        log = new AlarmLog();
        relations = new Relation[DEVICES];
        devices = new Device[DEVICES];
        for (int i = 0; i < DEVICES; i++) {
            relations[i] = new Relation(i, kinds, wire, log);
            devices[i] = new Device(i, kinds, wire);
        }
    }

    public boolean kind(int k, int ins, int outs, boolean parameter) {
        if (!isKind(k) || !within(ins, 0, PER_SLOT) || !within(outs, 0, PER_SLOT) || !allAtRest()) {
            return false;
        }
        kinds.define(k, ins, outs, parameter);
        return true;
    }

    public boolean name(int d, int name) {
        if (!isDevice(d) || !within(name, 0, MAX_NAME)) {
            return false;
        }
        devices[d].label = name;
        return true;
    }

    public boolean plug(int d, int slot, int k) {
        if (!isDevice(d) || !isSlot(slot) || !isKindOrNone(k)) {
            return false;
        }
        devices[d].changeModule(slot, k);
        return true;
    }

    public boolean substitute(int d, int what, int v) {
        if (!isDevice(d) || !within(what, Device.ZEROS, Device.AN_OCTET)) {
            return false;
        }
        if (what == Device.AN_OCTET && !isOctet(v)) {
            return false;
        }
        devices[d].setFallback(what, v);
        return true;
    }

    public boolean sense(int d, int slot, int i, int v) {
        if (!isDevice(d) || !isPlace(slot, i) || !isOctet(v)) {
            return false;
        }
        devices[d].sensed[place(slot, i)] = v;
        return true;
    }

    public boolean target(int r, int name) {
        if (!isDevice(r) || !within(name, 1, MAX_NAME) || !relations[r].isClosed()) {
            return false;
        }
        relations[r].wanted = name;
        return true;
    }

    public boolean expect(int r, int slot, int k, int parameter) {
        if (!isDevice(r) || !isSlot(slot) || !isKindOrNone(k) || !isOctet(parameter)) {
            return false;
        }
        if (!relations[r].isClosed()) {
            return false;
        }
        relations[r].setExpected(slot, k, parameter);
        return true;
    }

    public boolean give(int r, int slot, int i, int v) {
        if (!isDevice(r) || !isPlace(slot, i) || !isOctet(v)) {
            return false;
        }
        relations[r].given[place(slot, i)] = v;
        return true;
    }

    public int open(int r) {
        if (!isDevice(r)) {
            return REFUSED;
        }
        if (!relations[r].isClosed() || relations[r].wanted == 0) {
            return NONE;
        }
        session = session >= MAX_SESSION ? 1 : session + 1;
        sessionsBegun++;
        relations[r].begin(session);
        return session;
    }

    public int close(int r) {
        return isDevice(r) ? relations[r].end() : REFUSED;
    }

    public int deliver(int k) {
        if (!wire.has(k)) {
            return NONE;
        }
        Frame f = wire.take(k);
        delivered++;
        for (int i = 0; i < DEVICES; i++) {
            if (f.goal == CONTROLLER) {
                relations[i].receive(f);
            } else if (f.goal == BOTH_DEVICES || f.goal == i) {
                devices[i].receive(f);
            }
        }
        return wire.size;
    }

    public int lose(int k) {
        if (!wire.has(k)) {
            return NONE;
        }
        wire.take(k);
        return wire.size;
    }

    public int repeat(int k) {
        if (!wire.has(k) || wire.isFull()) {
            return NONE;
        }
        wire.copyToEnd(k);
        return wire.size;
    }

    public int tick(int n) {
        if (!within(n, 1, MAX_TICKS_A_CALL)) {
            return REFUSED;
        }
        for (int i = 0; i < n; i++) {
            ticks++;
            for (int r = 0; r < DEVICES; r++) {
                relations[r].passTick();
            }
            for (int d = 0; d < DEVICES; d++) {
                devices[d].passTick();
            }
        }
        return wire.size;
    }

    public int frame(int k, int what) {
        return wire.has(k) ? wire.frames[k].tell(what) : NONE;
    }

    public int relation(int r, int what) {
        return isDevice(r) ? relations[r].tell(what) : REFUSED;
    }

    public int device(int d, int what) {
        return isDevice(d) ? devices[d].tell(what) : REFUSED;
    }

    public int data(int side, int n, int slot, int i) {
        if (!within(side, 0, 1) || !isDevice(n) || !isPlace(slot, i)) {
            return REFUSED;
        }
        return side == 0 ? devices[n].shown[place(slot, i)] : relations[n].got[place(slot, i)];
    }

    public int alarms(int k) {
        return log.latest(k);
    }

    public int count(int what) {
        switch (what) {
            case 0: return ticks;
            case 1: return wire.sent;
            case 2: return wire.lostForRoom;
            case 3: return wire.size;
            case 4: return delivered;
            case 5: return sessionsBegun;
            case 6: return log.told;
            case 7: return watchEnds();
            default: return REFUSED;
        }
    }

    private boolean allAtRest() {
        for (int i = 0; i < DEVICES; i++) {
            if (!relations[i].isClosed() || !devices[i].isIdle()) {
                return false;
            }
        }
        return true;
    }

    private int watchEnds() {
        int sum = 0;
        for (int i = 0; i < DEVICES; i++) {
            sum += relations[i].watchEnds + devices[i].watchEnds;
        }
        return sum;
    }

    private static boolean within(int x, int low, int high) {
        return x >= low && x <= high;
    }

    private static boolean isDevice(int d) {
        return within(d, 0, DEVICES - 1);
    }

    private static boolean isSlot(int slot) {
        return within(slot, 0, SLOTS - 1);
    }

    private static boolean isPlace(int slot, int i) {
        return isSlot(slot) && within(i, 0, PER_SLOT - 1);
    }

    private static boolean isKind(int k) {
        return within(k, 0, KINDS - 1);
    }

    private static boolean isKindOrNone(int k) {
        return k == NO_KIND || isKind(k);
    }

    private static boolean isOctet(int v) {
        return within(v, 0, MAX_OCTET);
    }

    private static int place(int slot, int i) {
        return slot * PER_SLOT + i;
    }

    private static boolean hasSlot(int slots, int slot) {
        return (slots >> slot & 1) != 0;
    }

    private static int withSlot(int slots, int slot, boolean in) {
        return in ? slots | 1 << slot : slots & ~(1 << slot);
    }

    /** What each KIND of MODULE has and needs. */
    private static final class KindTable {
        private final int[] ins = new int[KINDS];
        private final int[] outs = new int[KINDS];
        private final boolean[] parameter = new boolean[KINDS];

        KindTable() {
            Arrays.fill(ins, 1);
            Arrays.fill(outs, 1);
        }

        void define(int k, int insOfKind, int outsOfKind, boolean needsParameter) {
            ins[k] = insOfKind;
            outs[k] = outsOfKind;
            parameter[k] = needsParameter;
        }

        int insOf(int k) {
            return k >= 0 && k < KINDS ? ins[k] : 0;
        }

        int outsOf(int k) {
            return k >= 0 && k < KINDS ? outs[k] : 0;
        }

        boolean needsParameter(int k) {
            return k >= 0 && k < KINDS && parameter[k];
        }
    }

    private static final class Frame {
        static final int ROW = 7;
        static final int FIRST_OF_ROW = 4;

        int type;
        int session;
        int number;
        int goal;
        final int[] row = new int[ROW];

        void set(int newType, int newSession, int newNumber, int newGoal) {
            type = newType;
            session = newSession;
            number = newNumber;
            goal = newGoal;
            Arrays.fill(row, 0);
        }

        void copyFrom(Frame f) {
            set(f.type, f.session, f.number, f.goal);
            System.arraycopy(f.row, 0, row, 0, ROW);
        }

        int tell(int what) {
            switch (what) {
                case 0: return type;
                case 1: return session;
                case 2: return number;
                case 3: return goal;
                default: return within(what, FIRST_OF_ROW, FIRST_OF_ROW + ROW - 1) ? row[what - FIRST_OF_ROW] : REFUSED;
            }
        }
    }

    /** The FRAMES under way; all are made at first and used again. */
    private static final class Wire {
        static final int ROOM = 16;

        // One more than there is room for: a frame just taken stays readable while others are sent.
        final Frame[] frames = new Frame[ROOM + 1];
        private final Frame scrap = new Frame();
        int size;
        int sent;
        int lostForRoom;

        Wire() {
            for (int i = 0; i <= ROOM; i++) {
                frames[i] = new Frame();
            }
        }

        boolean has(int k) {
            return within(k, 0, size - 1);
        }

        boolean isFull() {
            return size >= ROOM;
        }

        /** Answers the FRAME that was sent, so that its row can be filled. */
        Frame send(int type, int session, int number, int goal) {
            sent++;
            Frame f = scrap;
            if (isFull()) {
                lostForRoom++;
            } else {
                f = frames[size];
                size++;
            }
            f.set(type, session, number, goal);
            return f;
        }

        Frame take(int k) {
            Frame f = frames[k];
            for (int i = k; i < ROOM; i++) {
                frames[i] = frames[i + 1];
            }
            frames[ROOM] = f;
            size--;
            return f;
        }

        void copyToEnd(int k) {
            frames[size].copyFrom(frames[k]);
            size++;
        }
    }

    /** The counters of one side's DATA: of what it sends, and of what it took. */
    private static final class Cycle {
        private static final int NOTHING_TAKEN = -1;
        private static final int FARTHEST_AHEAD = 127;

        private int next;
        private int taken = NOTHING_TAKEN;

        void restart() {
            next = 0;
            taken = NOTHING_TAKEN;
        }

        int nextToSend() {
            int now = next;
            next = next + 1 & MAX_OCTET;
            return now;
        }

        boolean takes(int counter) {
            int ahead = counter - taken & MAX_OCTET;
            if (taken != NOTHING_TAKEN && !within(ahead, 1, FARTHEST_AHEAD)) {
                return false;
            }
            taken = counter;
            return true;
        }
    }

    /** The latest ALARMS told to the CONTROLLER. */
    private static final class AlarmLog {
        private static final int KEPT = 8;
        private static final int RELATION_WEIGHT = 64;
        private static final int SLOT_WEIGHT = 16;

        private final int[] entries = new int[KEPT];
        int told;

        void add(int relation, int slot, int kindPlusOne) {
            entries[told % KEPT] = RELATION_WEIGHT * relation + SLOT_WEIGHT * slot + kindPlusOne;
            told++;
        }

        int latest(int k) {
            if (!within(k, 0, Math.min(told, KEPT) - 1)) {
                return NONE;
            }
            return entries[(told - 1 - k) % KEPT];
        }
    }

    /** The ALARMS of a DEVICE that wait; the first of them may be on its way. */
    private static final class AlarmQueue {
        private static final int ROOM = 4;
        private static final int MAX_NUMBER = 255;
        private static final int AGAIN_AFTER = 3;

        private final int[] slots = new int[ROOM];
        private final int[] kindsPlusOne = new int[ROOM];
        int size;
        int onItsWay;
        private int latestNumber;
        private int sinceSent;

        void clear() {
            size = 0;
            onItsWay = 0;
            latestNumber = 0;
        }

        void add(int slot, int kindPlusOne) {
            if (size < ROOM) {
                slots[size] = slot;
                kindsPlusOne[size] = kindPlusOne;
                size++;
            }
        }

        int firstSlot() {
            return slots[0];
        }

        int firstKindPlusOne() {
            return kindsPlusOne[0];
        }

        /** Counts a TICK: whether the first one is to be sent in it. */
        boolean isDueThisTick() {
            if (size == 0) {
                return false;
            }
            if (onItsWay == 0) {
                latestNumber = latestNumber >= MAX_NUMBER ? 1 : latestNumber + 1;
                onItsWay = latestNumber;
                sinceSent = 0;
                return true;
            }
            sinceSent++;
            if (sinceSent < AGAIN_AFTER) {
                return false;
            }
            sinceSent = 0;
            return true;
        }

        void taken(int number) {
            if (onItsWay == 0 || number != onItsWay) {
                return;
            }
            onItsWay = 0;
            size--;
            for (int i = 0; i < size; i++) {
                slots[i] = slots[i + 1];
                kindsPlusOne[i] = kindsPlusOne[i + 1];
            }
        }
    }

    /** One RELATION of the CONTROLLER. */
    private static final class Relation {
        static final int CLOSED = 0, SEEKING = 1, CONNECTING = 2, WRITING = 3, ENDING = 4, WAITING = 5, DATA = 6;
        private static final int NOT_FOUND = -1;
        private static final int AGAIN_AFTER = 4;
        private static final int TIMES_AGAIN = 2;
        private static final int LONGEST_WAIT = 12;

        private final int index;
        private final KindTable kinds;
        private final Wire wire;
        private final AlarmLog log;
        private final Cycle cycle = new Cycle();
        int wanted;
        private final int[] expected = new int[SLOTS];
        private final int[] parameters = new int[SLOTS];
        final int[] given = new int[DATA_OCTETS];
        final int[] got = new int[DATA_OCTETS];
        private int state;
        private int session;
        private int found = NOT_FOUND;
        private int differing;
        private int good;
        private int ticks;
        private int timesAgain;
        private int writingSlot;
        private int alarmTold;
        int watchEnds;

        Relation(int index, KindTable kinds, Wire wire, AlarmLog log) {
            this.index = index;
            this.kinds = kinds;
            this.wire = wire;
            this.log = log;
            Arrays.fill(expected, NO_KIND);
        }

        boolean isClosed() {
            return state == CLOSED;
        }

        void setExpected(int slot, int k, int parameter) {
            expected[slot] = k;
            parameters[slot] = parameter;
        }

        void begin(int newSession) {
            session = newSession;
            differing = 0;
            alarmTold = 0;
            enter(SEEKING);
            sendRequest();
        }

        int end() {
            int before = state;
            if (state > SEEKING) {
                abort();
            } else {
                shut();
            }
            return before;
        }

        void receive(Frame f) {
            if (f.type == FOUND) {
                deviceFound(f);
                return;
            }
            if (state == CLOSED || f.session != session) {
                return;
            }
            switch (f.type) {
                case ACCEPT: accepted(f.number); break;
                case REFUSE: refused(); break;
                case WRITTEN: written(f.number); break;
                case ENDED: ended(); break;
                case READY: deviceReady(); break;
                case INPUT: takeInput(f); break;
                case ALARM: takeAlarm(f); break;
                case ABORT: shut(); break;
                default: break;
            }
        }

        void passTick() {
            if (state == CLOSED) {
                return;
            }
            ticks++;
            if (state == DATA) {
                passTickInData();
            } else if (state == WAITING) {
                if (ticks >= LONGEST_WAIT) {
                    abort();
                }
            } else if (ticks >= AGAIN_AFTER) {
                requestAgain();
            }
        }

        int tell(int what) {
            switch (what) {
                case 0: return state;
                case 1: return session;
                case 2: return found;
                case 3: return differing;
                case 4: return good;
                case 5: return ticks;
                case 6: return timesAgain;
                default: return REFUSED;
            }
        }

        private void deviceFound(Frame f) {
            if (state == SEEKING && f.row[0] == wanted) {
                found = f.number;
                enter(CONNECTING);
                sendRequest();
            }
        }

        private void accepted(int slotsThatDiffer) {
            if (state == CONNECTING) {
                differing = slotsThatDiffer;
                goOnWriting(0);
                sendRequest();
            }
        }

        private void refused() {
            if (state == CONNECTING) {
                shut();
            }
        }

        private void written(int slot) {
            if (state == WRITING && slot == writingSlot) {
                goOnWriting(slot + 1);
                sendRequest();
            }
        }

        private void ended() {
            if (state == ENDING) {
                enter(WAITING);
            }
        }

        private void deviceReady() {
            if (state == WAITING) {
                cycle.restart();
                enter(DATA);
                wire.send(GO, session, 0, found);
            } else if (state == DATA) {
                wire.send(GO, session, 0, found);
            }
        }

        private void takeInput(Frame f) {
            if (state == DATA && cycle.takes(f.number)) {
                System.arraycopy(f.row, 0, got, 0, DATA_OCTETS);
                good = f.row[DATA_OCTETS];
                ticks = 0;
            }
        }

        private void takeAlarm(Frame f) {
            wire.send(TAKEN, session, f.number, found);
            int slot = f.row[0];
            if (state != DATA || f.number == alarmTold || !isSlot(slot)) {
                return;
            }
            alarmTold = f.number;
            log.add(index, slot, f.row[1]);
            differing = withSlot(differing, slot, f.row[1] != expected[slot] + 1);
        }

        private void goOnWriting(int firstSlot) {
            for (int slot = firstSlot; slot < SLOTS; slot++) {
                if (kinds.needsParameter(expected[slot]) && !hasSlot(differing, slot)) {
                    writingSlot = slot;
                    enter(WRITING);
                    return;
                }
            }
            enter(ENDING);
        }

        private void enter(int newState) {
            state = newState;
            ticks = 0;
            timesAgain = 0;
        }

        private void requestAgain() {
            if (timesAgain < TIMES_AGAIN) {
                timesAgain++;
                ticks = 0;
                sendRequest();
            } else if (state == SEEKING) {
                shut();
            } else {
                abort();
            }
        }

        private void sendRequest() {
            switch (state) {
                case SEEKING: wire.send(SEEK, 0, wanted, BOTH_DEVICES); break;
                case CONNECTING: sendConnect(); break;
                case WRITING:
                    wire.send(WRITE, session, writingSlot, found).row[0] = parameters[writingSlot];
                    break;
                case ENDING: wire.send(END, session, 0, found); break;
                default: break;
            }
        }

        private void sendConnect() {
            Frame f = wire.send(CONNECT, session, 0, found);
            for (int slot = 0; slot < SLOTS; slot++) {
                f.row[slot] = expected[slot] + 1;
            }
        }

        private void passTickInData() {
            if (ticks >= WATCH_LIMIT) {
                watchEnds++;
                abort();
            } else {
                sendOutput();
            }
        }

        private void sendOutput() {
            Frame f = wire.send(OUTPUT, session, cycle.nextToSend(), found);
            for (int slot = 0; slot < SLOTS; slot++) {
                int outs = hasSlot(differing, slot) ? 0 : kinds.outsOf(expected[slot]);
                for (int i = 0; i < outs; i++) {
                    f.row[place(slot, i)] = given[place(slot, i)];
                }
            }
        }

        private void abort() {
            wire.send(ABORT, session, 0, found);
            shut();
        }

        // The slots that differ stay to be read until the next session begins.
        private void shut() {
            enter(CLOSED);
            session = 0;
            found = NOT_FOUND;
            good = 0;
            Arrays.fill(got, 0);
        }
    }

    private static final class Device {
        static final int ZEROS = 0, AS_THEY_WERE = 1, AN_OCTET = 2;
        static final int IDLE = 0, CONNECTED = 1, READYING = 2, DATA = 3;
        private static final int NOT_WRITTEN = -1;
        private static final int LONGEST_CONNECTED = 16;
        private static final int READY_AGAIN_AFTER = 3;
        private static final int READY_TIMES_AGAIN = 3;

        private final int index;
        private final KindTable kinds;
        private final Wire wire;
        private final Cycle cycle = new Cycle();
        private final AlarmQueue queue = new AlarmQueue();
        int label;
        private int fallback = ZEROS;
        private int fallbackOctet;
        private final int[] modules = new int[SLOTS];
        final int[] sensed = new int[DATA_OCTETS];
        final int[] shown = new int[DATA_OCTETS];
        private int state;
        private int session;
        private final int[] expected = new int[SLOTS];
        private final int[] written = new int[SLOTS];
        private int differing;
        private int ticks;
        private int timesAgain;
        int watchEnds;

        Device(int index, KindTable kinds, Wire wire) {
            this.index = index;
            this.kinds = kinds;
            this.wire = wire;
            Arrays.fill(modules, NO_KIND);
            Arrays.fill(expected, NO_KIND);
            Arrays.fill(written, NOT_WRITTEN);
        }

        boolean isIdle() {
            return state == IDLE;
        }

        void setFallback(int what, int octet) {
            fallback = what;
            fallbackOctet = octet;
        }

        void changeModule(int slot, int k) {
            if (modules[slot] == k) {
                return;
            }
            modules[slot] = k;
            showFallback(slot);
            if (state == DATA && expected[slot] != NO_KIND) {
                differing = withSlot(differing, slot, k != expected[slot]);
                queue.add(slot, k + 1);
            }
        }

        void receive(Frame f) {
            if (f.type == SEEK) {
                answerSeek(f.number);
                return;
            }
            if (f.type == CONNECT) {
                answerConnect(f);
                return;
            }
            if (state == IDLE || f.session != session) {
                return;
            }
            switch (f.type) {
                case WRITE: keepParameter(f); break;
                case END: answerEnd(); break;
                case GO: beginData(); break;
                case OUTPUT: takeOutput(f); break;
                case TAKEN: queue.taken(f.number); break;
                case ABORT: becomeIdle(); break;
                default: break;
            }
        }

        void passTick() {
            if (state == IDLE) {
                return;
            }
            ticks++;
            if (state == DATA) {
                passTickInData();
            } else if (state == READYING) {
                if (ticks >= READY_AGAIN_AFTER) {
                    readyAgain();
                }
            } else if (ticks >= LONGEST_CONNECTED) {
                becomeIdle();
            }
        }

        int tell(int what) {
            switch (what) {
                case 0: return state;
                case 1: return session;
                case 2: return differing;
                case 3: return queue.size;
                case 4: return queue.onItsWay;
                case 5: return written[0];
                case 6: return written[1];
                case 7: return written[2];
                case 8: return ticks;
                default: return REFUSED;
            }
        }

        private void answerSeek(int name) {
            if (label != 0 && name == label) {
                wire.send(FOUND, 0, index, CONTROLLER).row[0] = label;
            }
        }

        private void answerConnect(Frame f) {
            if (state != IDLE && f.session != session) {
                wire.send(REFUSE, f.session, 0, CONTROLLER);
            } else if (state == IDLE || state == CONNECTED) {
                connect(f);
                wire.send(ACCEPT, session, differing, CONTROLLER);
            }
        }

        private void connect(Frame f) {
            state = CONNECTED;
            session = f.session;
            ticks = 0;
            Arrays.fill(written, NOT_WRITTEN);
            for (int slot = 0; slot < SLOTS; slot++) {
                expected[slot] = f.row[slot] - 1;
                boolean differs = expected[slot] != NO_KIND && expected[slot] != modules[slot];
                differing = withSlot(differing, slot, differs);
            }
        }

        private void keepParameter(Frame f) {
            if (state == CONNECTED && isSlot(f.number)) {
                written[f.number] = f.row[0];
                ticks = 0;
                wire.send(WRITTEN, session, f.number, CONTROLLER);
            }
        }

        private void answerEnd() {
            if (state == CONNECTED && lacksParameter()) {
                abort();
            } else if (state == CONNECTED) {
                state = READYING;
                ticks = 0;
                timesAgain = 0;
                wire.send(ENDED, session, 0, CONTROLLER);
                wire.send(READY, session, 0, CONTROLLER);
            } else if (state == READYING) {
                wire.send(ENDED, session, 0, CONTROLLER);
            }
        }

        private boolean lacksParameter() {
            for (int slot = 0; slot < SLOTS; slot++) {
                if (isGood(slot) && kinds.needsParameter(expected[slot]) && written[slot] == NOT_WRITTEN) {
                    return true;
                }
            }
            return false;
        }

        private void readyAgain() {
            if (timesAgain < READY_TIMES_AGAIN) {
                timesAgain++;
                ticks = 0;
                wire.send(READY, session, 0, CONTROLLER);
            } else {
                abort();
            }
        }

        private void beginData() {
            if (state == READYING) {
                state = DATA;
                ticks = 0;
                cycle.restart();
            }
        }

        private void takeOutput(Frame f) {
            if (state != DATA || !cycle.takes(f.number)) {
                return;
            }
            ticks = 0;
            for (int slot = 0; slot < SLOTS; slot++) {
                if (isGood(slot)) {
                    showRow(f, slot);
                }
            }
        }

        private void showRow(Frame f, int slot) {
            int outs = kinds.outsOf(modules[slot]);
            for (int i = 0; i < PER_SLOT; i++) {
                shown[place(slot, i)] = i < outs ? f.row[place(slot, i)] : 0;
            }
        }

        private void showFallback(int slot) {
            int outs = kinds.outsOf(modules[slot]);
            for (int i = 0; i < PER_SLOT; i++) {
                int p = place(slot, i);
                if (i >= outs || fallback == ZEROS) {
                    shown[p] = 0;
                } else if (fallback != AS_THEY_WERE) {
                    shown[p] = fallbackOctet;
                }
            }
        }

        private boolean isGood(int slot) {
            return expected[slot] != NO_KIND && !hasSlot(differing, slot);
        }

        private void passTickInData() {
            if (ticks >= WATCH_LIMIT) {
                watchEnds++;
                abort();
                return;
            }
            if (queue.isDueThisTick()) {
                sendAlarm();
            }
            sendInput();
        }

        private void sendAlarm() {
            Frame f = wire.send(ALARM, session, queue.onItsWay, CONTROLLER);
            f.row[0] = queue.firstSlot();
            f.row[1] = queue.firstKindPlusOne();
        }

        private void sendInput() {
            Frame f = wire.send(INPUT, session, cycle.nextToSend(), CONTROLLER);
            int goodSlots = 0;
            for (int slot = 0; slot < SLOTS; slot++) {
                if (isGood(slot)) {
                    goodSlots = withSlot(goodSlots, slot, true);
                    copySensed(f, slot);
                }
            }
            f.row[DATA_OCTETS] = goodSlots;
        }

        private void copySensed(Frame f, int slot) {
            int ins = kinds.insOf(modules[slot]);
            for (int i = 0; i < ins; i++) {
                f.row[place(slot, i)] = sensed[place(slot, i)];
            }
        }

        private void abort() {
            wire.send(ABORT, session, 0, CONTROLLER);
            becomeIdle();
        }

        private void becomeIdle() {
            if (state == DATA) {
                for (int slot = 0; slot < SLOTS; slot++) {
                    showFallback(slot);
                }
            }
            state = IDLE;
            session = 0;
            ticks = 0;
            differing = 0;
            queue.clear();
            Arrays.fill(written, NOT_WRITTEN);
        }
    }
}
