import java.util.Arrays;
import java.util.NoSuchElementException;

/**
 * A bench for old cipher machines. The outer class looks at what it is given and refuses what the
 * document refuses; the classes inside it may then trust their arguments.
 */
public final class RotorBench {
    public static final int NONE = -1;

    private static final int FIRST_CONTACTS = 26;
    private static final int MOST_CONTACTS = 32;
    private static final int WHEELS = 8;
    private static final int SLOTS = 6;
    private static final int PARTS = 2;
    private static final int PIN_WHEELS = 12;
    private static final int MOST_PINS = 61;
    private static final int BARS = 27;
    private static final int RULES = 5;
    private static final int PATHS = 3;
    private static final int KINDS = 2;
    private static final int BITS = 5;
    private static final int MOST_UNDONE = 40;
    private static final int MOST_PERIOD = 5000;
    private static final int MOST_MESSAGES = 20;
    private static final int MOST_SIGNS = 60;

    private final Machine machine = new Machine();
    private final Steps steps = new Steps();
    private final Log log = new Log();
    private final Stand kept = new Stand();

    public RotorBench() {
        machine.clear(FIRST_CONTACTS);
    }

    // ---- settings

    public int contacts(int m) throws IllegalArgumentException, IllegalStateException {
        if (m != 10 && m != 26 && m != 32) {
            throw new IllegalArgumentException("contacts are 10, 26 or 32");
        }
        needNoneOpen();
        int was = machine.contacts;
        machine.clear(m);
        steps.clear();
        log.clear();
        return was;
    }

    public int wire(int wheel, int a, int b) throws NoSuchElementException, IllegalStateException {
        needOneOf(wheel, WHEELS);
        needOneOf(a, machine.contacts);
        needOneOf(b, machine.contacts);
        needNoneOpen();
        return machine.wheels[wheel].lead(a, b);
    }

    public int ring(int wheel, int r) throws NoSuchElementException, IllegalStateException {
        needOneOf(wheel, WHEELS);
        needOneOf(r, machine.contacts);
        needNoneOpen();
        int was = machine.wheels[wheel].ring;
        machine.wheels[wheel].ring = r;
        return was;
    }

    public boolean notch(int wheel, int position, boolean on) throws NoSuchElementException, IllegalStateException {
        needOneOf(wheel, WHEELS);
        needOneOf(position, machine.contacts);
        needNoneOpen();
        return turn(machine.wheels[wheel].notches, position, on);
    }

    public int fill(int slot, int wheel) throws NoSuchElementException, IllegalStateException {
        needOneOf(slot, SLOTS);
        needOneOfOrNone(wheel, WHEELS);
        needNoneOpen();
        if (wheel != NONE && machine.isInAnother(wheel, slot)) {
            throw new IllegalStateException("the wheel is in another slot");
        }
        return machine.put(slot, wheel);
    }

    public void plug(int part, int a, int b)
            throws NoSuchElementException, IllegalArgumentException, IllegalStateException {
        needOneOf(part, PARTS);
        needOneOf(a, machine.contacts);
        needOneOf(b, machine.contacts);
        if (a == b) {
            throw new IllegalArgumentException("a pair is of two contacts");
        }
        needNoneOpen();
        Pairs pairs = machine.pairsOf(part);
        if (pairs.holds(a) || pairs.holds(b)) {
            throw new IllegalStateException("a contact is in a pair");
        }
        pairs.join(a, b);
    }

    public int unplug(int part, int a) throws NoSuchElementException, IllegalStateException {
        needOneOf(part, PARTS);
        needOneOf(a, machine.contacts);
        needNoneOpen();
        Pairs pairs = machine.pairsOf(part);
        return pairs.holds(a) ? pairs.split(a) : NONE;
    }

    public boolean reflects(boolean on) throws IllegalStateException {
        needNoneOpen();
        boolean changed = machine.reflecting != on;
        machine.reflecting = on;
        return changed;
    }

    public int pins(int pinWheel, int length)
            throws NoSuchElementException, IllegalArgumentException, IllegalStateException {
        needOneOf(pinWheel, PIN_WHEELS);
        if (length < 0 || length > MOST_PINS) {
            throw new IllegalArgumentException("a pin wheel has 0 to 61 pins");
        }
        needNoneOpen();
        int was = machine.pinWheels[pinWheel].length;
        machine.pinWheels[pinWheel].cut(length);
        machine.stand.places[pinWheel] = 0;
        steps.clear();
        return was;
    }

    public boolean pin(int pinWheel, int k, boolean up) throws NoSuchElementException, IllegalStateException {
        needOneOf(pinWheel, PIN_WHEELS);
        needOneOf(k, machine.pinWheels[pinWheel].length);
        needNoneOpen();
        return turn(machine.pinWheels[pinWheel].ups, k, up);
    }

    public void lugs(int bar, int one, int other) throws NoSuchElementException, IllegalStateException {
        needOneOf(bar, BARS);
        needOneOfOrNone(one, PIN_WHEELS);
        needOneOfOrNone(other, PIN_WHEELS);
        needNoneOpen();
        machine.oneLugs[bar] = one;
        machine.otherLugs[bar] = other;
    }

    public int rule(int rule) throws NoSuchElementException, IllegalStateException {
        needOneOf(rule, RULES);
        needNoneOpen();
        int was = machine.stepRule;
        machine.stepRule = rule;
        return was;
    }

    public int path(int path) throws NoSuchElementException, IllegalStateException {
        needOneOf(path, PATHS);
        needNoneOpen();
        int was = machine.signPath;
        machine.signPath = path;
        return was;
    }

    public int set(int kind, int k, int p) throws NoSuchElementException, IllegalStateException {
        needMover(kind, k);
        needOneOf(p, kind == 0 ? machine.contacts : machine.pinWheels[k].length);
        needNoneOpen();
        int[] row = rowOf(kind);
        int was = row[k];
        row[k] = p;
        steps.clear();
        return was;
    }

    // ---- signs

    public int key(int sign) throws NoSuchElementException, IllegalStateException {
        needOneOf(sign, machine.contacts);
        if (log.isFull()) {
            throw new IllegalStateException("the open message has 60 signs");
        }
        steps.add(machine.step());
        int came = machine.send(sign);
        log.add(sign, came);
        return came;
    }

    public int back(int sign) throws NoSuchElementException, IllegalStateException {
        needOneOf(sign, machine.contacts);
        needNoneOpen();
        steps.add(machine.step());
        return machine.sendBack(sign);
    }

    public int image(int sign) throws NoSuchElementException {
        needOneOf(sign, machine.contacts);
        return machine.send(sign);
    }

    public int at(int kind, int k) throws NoSuchElementException {
        needMover(kind, k);
        return rowOf(kind)[k];
    }

    public int undo() throws IllegalStateException {
        needNoneOpen();
        if (steps.size == 0) {
            throw new IllegalStateException("no step can be undone");
        }
        machine.stepBack(steps.takeLatest());
        return steps.size;
    }

    public int period(int most) throws IllegalArgumentException, IllegalStateException {
        if (most < 1 || most > MOST_PERIOD) {
            throw new IllegalArgumentException("most is 1 to 5000");
        }
        needNoneOpen();
        kept.copy(machine.stand);
        int taken = stepsTillKept(most);
        machine.stand.copy(kept);
        return taken;
    }

    public int fixed() {
        int found = 0;
        for (int sign = 0; sign < machine.contacts; sign++) {
            if (machine.send(sign) == sign) {
                found++;
            }
        }
        return found;
    }

    // ---- messages

    public int open() throws IllegalStateException {
        needNoneOpen();
        if (log.size == MOST_MESSAGES) {
            throw new IllegalStateException("there are 20 messages");
        }
        return log.begin(machine.stand);
    }

    public int close() throws IllegalStateException {
        if (!log.running) {
            throw new IllegalStateException("no message is open");
        }
        return log.end();
    }

    public int logged(int message, int k, int what) throws NoSuchElementException, IllegalArgumentException {
        needOneOf(message, log.size);
        needOneOf(k, log.messages[message].size);
        if (what != 0 && what != 1) {
            throw new IllegalArgumentException("what is 0 or 1");
        }
        return what == 0 ? log.messages[message].keyed[k] : log.messages[message].came[k];
    }

    public int replay(int message) throws NoSuchElementException, IllegalStateException {
        needOneOf(message, log.size);
        if (log.isRunning(message)) {
            throw new IllegalStateException("the message is open");
        }
        kept.copy(machine.stand);
        machine.standAs(log.messages[message].start);
        int first = firstOther(log.messages[message]);
        machine.stand.copy(kept);
        return first;
    }

    public int count(int what) throws IllegalArgumentException {
        switch (what) {
            case 0:
                return machine.contacts;
            case 1:
                return machine.filled;
            case 2:
                return machine.plugboard.size;
            case 3:
                return machine.reflector.size;
            case 4:
                return machine.pinWheelsThere();
            case 5:
                return log.size;
            case 6:
                return log.running ? 1 : 0;
            case 7:
                return steps.size;
            default:
                throw new IllegalArgumentException("what is 0 to 7");
        }
    }

    // ---- what several calls share

    private static void needOneOf(int value, int size) {
        if (value < 0 || value >= size) {
            throw new NoSuchElementException("there is no such one");
        }
    }

    private static void needOneOfOrNone(int value, int size) {
        if (value != NONE) {
            needOneOf(value, size);
        }
    }

    private static void needMover(int kind, int k) {
        needOneOf(kind, KINDS);
        needOneOf(k, kind == 0 ? SLOTS : PIN_WHEELS);
    }

    private void needNoneOpen() {
        if (log.running) {
            throw new IllegalStateException("a message is open");
        }
    }

    private int[] rowOf(int kind) {
        return kind == 0 ? machine.stand.positions : machine.stand.places;
    }

    private static boolean turn(boolean[] row, int k, boolean on) {
        boolean changed = row[k] != on;
        row[k] = on;
        return changed;
    }

    private int stepsTillKept(int most) {
        for (int taken = 1; taken <= most; taken++) {
            machine.step();
            if (machine.stand.isLike(kept)) {
                return taken;
            }
        }
        return 0;
    }

    private int firstOther(Message message) {
        for (int k = 0; k < message.size; k++) {
            machine.step();
            if (machine.send(message.keyed[k]) != message.came[k]) {
                return k;
            }
        }
        return NONE;
    }

    /** No caller is off by more than one round, so that no division is needed. */
    private static int round(int value, int size) {
        if (value < 0) {
            return value + size;
        }
        return value >= size ? value - size : value;
    }

    /** All that a step moves, apart from the settings, so that it can be kept and brought back. */
    private static final class Stand {
        final int[] positions = new int[SLOTS];
        final int[] places = new int[PIN_WHEELS];

        void clear() {
            Arrays.fill(positions, 0);
            Arrays.fill(places, 0);
        }

        void copy(Stand other) {
            System.arraycopy(other.positions, 0, positions, 0, SLOTS);
            System.arraycopy(other.places, 0, places, 0, PIN_WHEELS);
        }

        boolean isLike(Stand other) {
            for (int s = 0; s < SLOTS; s++) {
                if (positions[s] != other.positions[s]) {
                    return false;
                }
            }
            for (int k = 0; k < PIN_WHEELS; k++) {
                if (places[k] != other.places[k]) {
                    return false;
                }
            }
            return true;
        }
    }

    /** The wiring is held both ways round, so that the way back needs no search. */
    private static final class Wheel {
        final int[] leadsTo = new int[MOST_CONTACTS];
        final int[] comesFrom = new int[MOST_CONTACTS];
        final boolean[] notches = new boolean[MOST_CONTACTS];
        int ring;

        void clear() {
            for (int c = 0; c < MOST_CONTACTS; c++) {
                leadsTo[c] = c;
                comesFrom[c] = c;
                notches[c] = false;
            }
            ring = 0;
        }

        int lead(int a, int b) {
            int former = comesFrom[b];
            int freed = leadsTo[a];
            join(former, freed);
            join(a, b);
            return former;
        }

        private void join(int from, int to) {
            leadsTo[from] = to;
            comesFrom[to] = from;
        }

        int pass(int[] wiring, int c, int position, int m) {
            int shift = position - ring;
            return round(wiring[round(c + shift, m)] - shift, m);
        }
    }

    /** A contact in no pair is its own partner: then an exchange needs no question. */
    private static final class Pairs {
        final int[] partners = new int[MOST_CONTACTS];
        int size;

        void clear() {
            for (int c = 0; c < MOST_CONTACTS; c++) {
                partners[c] = c;
            }
            size = 0;
        }

        boolean holds(int c) {
            return partners[c] != c;
        }

        void join(int a, int b) {
            partners[a] = b;
            partners[b] = a;
            size++;
        }

        int split(int a) {
            int other = partners[a];
            partners[a] = a;
            partners[other] = other;
            size--;
            return other;
        }
    }

    private static final class PinWheel {
        final boolean[] ups = new boolean[MOST_PINS];
        int length;

        void cut(int pins) {
            for (int k = 0; k < MOST_PINS; k++) {
                ups[k] = false;
            }
            length = pins;
        }
    }

    private static final class Machine {
        final Wheel[] wheels = new Wheel[WHEELS];
        final int[] slots = new int[SLOTS];
        // The filled slots in their order: the rules speak of these alone.
        final int[] order = new int[SLOTS];
        final PinWheel[] pinWheels = new PinWheel[PIN_WHEELS];
        final int[] oneLugs = new int[BARS];
        final int[] otherLugs = new int[BARS];
        final Pairs plugboard = new Pairs();
        final Pairs reflector = new Pairs();
        final Stand stand = new Stand();
        int contacts;
        int filled;
        int stepRule;
        int signPath;
        boolean reflecting;

        Machine() {
            for (int w = 0; w < WHEELS; w++) {
                wheels[w] = new Wheel();
            }
            for (int k = 0; k < PIN_WHEELS; k++) {
                pinWheels[k] = new PinWheel();
            }
        }

        void clear(int m) {
            for (int w = 0; w < WHEELS; w++) {
                wheels[w].clear();
            }
            for (int k = 0; k < PIN_WHEELS; k++) {
                pinWheels[k].cut(0);
            }
            Arrays.fill(slots, NONE);
            Arrays.fill(oneLugs, NONE);
            Arrays.fill(otherLugs, NONE);
            plugboard.clear();
            reflector.clear();
            stand.clear();
            contacts = m;
            filled = 0;
            stepRule = 0;
            signPath = 0;
            reflecting = false;
        }

        Pairs pairsOf(int part) {
            return part == 0 ? plugboard : reflector;
        }

        boolean isInAnother(int wheel, int slot) {
            for (int s = 0; s < SLOTS; s++) {
                if (s != slot && slots[s] == wheel) {
                    return true;
                }
            }
            return false;
        }

        int put(int slot, int wheel) {
            int was = slots[slot];
            slots[slot] = wheel;
            filled = 0;
            for (int s = 0; s < SLOTS; s++) {
                if (slots[s] != NONE) {
                    order[filled] = s;
                    filled++;
                }
            }
            return was;
        }

        int pinWheelsThere() {
            int there = 0;
            for (int k = 0; k < PIN_WHEELS; k++) {
                if (pinWheels[k].length > 0) {
                    there++;
                }
            }
            return there;
        }

        /** Answers the slots that stepped, a bit for each: that is all an undo needs. */
        int step() {
            int moved = 0;
            for (int i = 0; i < filled; i++) {
                if (doesStep(i)) {
                    moved |= 1 << order[i];
                }
            }
            move(moved, 1);
            return moved;
        }

        void stepBack(int moved) {
            move(moved, -1);
        }

        private void move(int moved, int by) {
            for (int s = 0; s < SLOTS; s++) {
                if (((moved >> s) & 1) == 1) {
                    stand.positions[s] = round(stand.positions[s] + by, contacts);
                }
            }
            for (int k = 0; k < PIN_WHEELS; k++) {
                if (pinWheels[k].length > 0) {
                    stand.places[k] = round(stand.places[k] + by, pinWheels[k].length);
                }
            }
        }

        private boolean doesStep(int i) {
            int last = filled - 1;
            switch (stepRule) {
                case 0:
                    return areAtNotchBefore(i);
                case 1:
                    return i == 0 || isAtNotch(i - 1) || (i != last && isAtNotch(i));
                case 2:
                    return !isAtNotch(i == last ? 0 : i + 1);
                case 3:
                    return pinWheels[order[i]].length == 0 || isUp(order[i]);
                default:
                    return i == last || !isAtNotch(last);
            }
        }

        private boolean areAtNotchBefore(int i) {
            for (int ahead = 0; ahead < i; ahead++) {
                if (!isAtNotch(ahead)) {
                    return false;
                }
            }
            return true;
        }

        private boolean isAtNotch(int i) {
            int slot = order[i];
            return wheels[slots[slot]].notches[stand.positions[slot]];
        }

        /** Asks for the place first, as a pin wheel that is none has no active pin. */
        private boolean isUp(int pinWheel) {
            PinWheel wheel = pinWheels[pinWheel];
            int place = stand.places[pinWheel];
            return place < wheel.length && wheel.ups[place];
        }

        /** Pin wheels may have been cut anew since, so a place goes round on the length of now. */
        void standAs(Stand start) {
            stand.copy(start);
            for (int k = 0; k < PIN_WHEELS; k++) {
                int length = pinWheels[k].length;
                stand.places[k] = length > 0 ? start.places[k] % length : 0;
            }
        }

        int send(int sign) {
            return plugboard.partners[takePath(plugboard.partners[sign])];
        }

        int sendBack(int sign) {
            int c = plugboard.partners[sign];
            // Every other way is its own way back.
            boolean oneWay = signPath == 0 && !reflecting;
            return plugboard.partners[oneWay ? fromSlots(c) : takePath(c)];
        }

        private int takePath(int c) {
            switch (signPath) {
                case 0:
                    return reflecting ? fromSlots(reflector.partners[intoSlots(c)]) : intoSlots(c);
                case 1:
                    return contacts == MOST_CONTACTS ? turnBits(c) : c;
                default:
                    return round(barsTaken() - c, contacts);
            }
        }

        private int intoSlots(int sign) {
            int c = sign;
            for (int i = 0; i < filled; i++) {
                Wheel wheel = wheels[slots[order[i]]];
                c = wheel.pass(wheel.leadsTo, c, stand.positions[order[i]], contacts);
            }
            return c;
        }

        private int fromSlots(int sign) {
            int c = sign;
            for (int i = filled - 1; i >= 0; i--) {
                Wheel wheel = wheels[slots[order[i]]];
                c = wheel.pass(wheel.comesFrom, c, stand.positions[order[i]], contacts);
            }
            return c;
        }

        private int turnBits(int sign) {
            int c = sign;
            for (int k = 0; k < BITS; k++) {
                if (isUp(k) != isUp(k + BITS)) {
                    c ^= 1 << k;
                }
            }
            return c;
        }

        /** Counts round, as there may be more bars than contacts. */
        private int barsTaken() {
            int taken = 0;
            for (int bar = 0; bar < BARS; bar++) {
                if (isLugUp(oneLugs[bar]) || isLugUp(otherLugs[bar])) {
                    taken = round(taken + 1, contacts);
                }
            }
            return taken;
        }

        private boolean isLugUp(int pinWheel) {
            return pinWheel != NONE && isUp(pinWheel);
        }
    }

    /** The latest steps, on a round row: a new one takes the room of the oldest. */
    private static final class Steps {
        final int[] moved = new int[MOST_UNDONE];
        int next;
        int size;

        void clear() {
            size = 0;
        }

        void add(int slotsMoved) {
            moved[next] = slotsMoved;
            next = round(next + 1, MOST_UNDONE);
            size = Math.min(size + 1, MOST_UNDONE);
        }

        int takeLatest() {
            next = round(next - 1, MOST_UNDONE);
            size--;
            return moved[next];
        }
    }

    private static final class Message {
        final Stand start = new Stand();
        final int[] keyed = new int[MOST_SIGNS];
        final int[] came = new int[MOST_SIGNS];
        int size;
    }

    /** All messages are made at once and used again, as contacts() may clear them at every call. */
    private static final class Log {
        final Message[] messages = new Message[MOST_MESSAGES];
        int size;
        boolean running;

        Log() {
            for (int i = 0; i < MOST_MESSAGES; i++) {
                messages[i] = new Message();
            }
        }

        void clear() {
            size = 0;
        }

        boolean isRunning(int message) {
            return running && message == size - 1;
        }

        boolean isFull() {
            return running && messages[size - 1].size == MOST_SIGNS;
        }

        int begin(Stand start) {
            messages[size].start.copy(start);
            messages[size].size = 0;
            running = true;
            size++;
            return size - 1;
        }

        void add(int sign, int sent) {
            if (running) {
                Message message = messages[size - 1];
                message.keyed[message.size] = sign;
                message.came[message.size] = sent;
                message.size++;
            }
        }

        int end() {
            running = false;
            return messages[size - 1].size;
        }
    }
}
