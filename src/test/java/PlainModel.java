import java.util.ArrayList;
import java.util.Arrays;
import java.util.List;
import java.util.NoSuchElementException;

/**
 * A second model, written as near to the document's words as can be and as unlike the class as can
 * be: whole copies instead of steps taken back, searches instead of tables the other way round.
 */
final class PlainModel {
    private static final class Logged {
        int[] positions;
        int[] places;
        final List<int[]> signs = new ArrayList<>();
    }

    int m;
    int[][] wiring;
    int[] rings;
    boolean[][] notches;
    int[] slots;
    int[] positions;
    int[][] pairs;
    boolean reflecting;
    boolean[][] pins;
    int[] places;
    int[][] bars;
    int rule;
    int path;
    List<int[][]> steps;
    List<Logged> messages;
    boolean open;

    PlainModel() {
        asAtFirst(26);
    }

    private void asAtFirst(int contacts) {
        m = contacts;
        wiring = new int[8][m];
        for (int[] row : wiring) {
            Arrays.setAll(row, c -> c);
        }
        rings = new int[8];
        notches = new boolean[8][m];
        slots = new int[] {-1, -1, -1, -1, -1, -1};
        positions = new int[6];
        pairs = new int[2][m];
        for (int[] row : pairs) {
            Arrays.fill(row, -1);
        }
        reflecting = false;
        pins = new boolean[12][0];
        places = new int[12];
        bars = new int[27][];
        Arrays.setAll(bars, b -> new int[] {-1, -1});
        rule = 0;
        path = 0;
        steps = new ArrayList<>();
        messages = new ArrayList<>();
        open = false;
    }

    /** What the call of this name answers (a boolean counts 1 or 0, nothing counts 0). */
    int call(String name, int a, int b, int c) {
        switch (name) {
            case "contacts": return contacts(a);
            case "wire": return wire(a, b, c);
            case "ring": return ring(a, b);
            case "notch": return notch(a, b, c != 0);
            case "fill": return fill(a, b);
            case "plug": return plug(a, b, c);
            case "unplug": return unplug(a, b);
            case "reflects": return reflects(a != 0);
            case "pins": return pins(a, b);
            case "pin": return pin(a, b, c != 0);
            case "lugs": return lugs(a, b, c);
            case "rule": return rule(a);
            case "path": return path(a);
            case "set": return set(a, b, c);
            case "key": return key(a);
            case "back": return back(a);
            case "image": there(a, m); return taken(a);
            case "at": there(a, 2); there(b, a == 0 ? 6 : 12); return a == 0 ? positions[b] : places[b];
            case "undo": return undo();
            case "period": return period(a);
            case "fixed": return fixed();
            case "open": return open();
            case "close": return close();
            case "logged": return logged(a, b, c);
            case "replay": return replay(a);
            default: return count(a);
        }
    }

    private static void there(int value, int size) {
        if (value < 0 || value > size - 1) {
            throw new NoSuchElementException();
        }
    }

    private static void fits(boolean right) {
        if (!right) {
            throw new IllegalArgumentException();
        }
    }

    private static void may(boolean right) {
        if (!right) {
            throw new IllegalStateException();
        }
    }

    private int contacts(int contacts) {
        fits(List.of(10, 26, 32).contains(contacts));
        may(!open);
        int was = m;
        asAtFirst(contacts);
        return was;
    }

    private int wire(int wheel, int a, int b) {
        there(wheel, 8);
        there(a, m);
        there(b, m);
        may(!open);
        int[] row = wiring[wheel];
        int led = indexOf(row, b);
        row[led] = row[a];
        row[a] = b;
        return led;
    }

    private static int indexOf(int[] row, int value) {
        for (int i = 0; i < row.length; i++) {
            if (row[i] == value) {
                return i;
            }
        }
        return -1;
    }

    private int ring(int wheel, int r) {
        there(wheel, 8);
        there(r, m);
        may(!open);
        int was = rings[wheel];
        rings[wheel] = r;
        return was;
    }

    private int notch(int wheel, int position, boolean on) {
        there(wheel, 8);
        there(position, m);
        may(!open);
        int changed = notches[wheel][position] == on ? 0 : 1;
        notches[wheel][position] = on;
        return changed;
    }

    private int fill(int slot, int wheel) {
        there(slot, 6);
        there(wheel + 1, 9);
        may(!open);
        int in = wheel == -1 ? -1 : indexOf(slots, wheel);
        may(in == -1 || in == slot);
        int was = slots[slot];
        slots[slot] = wheel;
        return was;
    }

    private int plug(int part, int a, int b) {
        there(part, 2);
        there(a, m);
        there(b, m);
        fits(a != b);
        may(!open && pairs[part][a] == -1 && pairs[part][b] == -1);
        pairs[part][a] = b;
        pairs[part][b] = a;
        return 0;
    }

    private int unplug(int part, int a) {
        there(part, 2);
        there(a, m);
        may(!open);
        int other = pairs[part][a];
        if (other != -1) {
            pairs[part][a] = -1;
            pairs[part][other] = -1;
        }
        return other;
    }

    private int reflects(boolean on) {
        may(!open);
        int changed = reflecting == on ? 0 : 1;
        reflecting = on;
        return changed;
    }

    private int pins(int pinWheel, int length) {
        there(pinWheel, 12);
        fits(length >= 0 && length <= 61);
        may(!open);
        int was = pins[pinWheel].length;
        pins[pinWheel] = new boolean[length];
        places[pinWheel] = 0;
        steps.clear();
        return was;
    }

    private int pin(int pinWheel, int k, boolean up) {
        there(pinWheel, 12);
        there(k, pins[pinWheel].length);
        may(!open);
        int changed = pins[pinWheel][k] == up ? 0 : 1;
        pins[pinWheel][k] = up;
        return changed;
    }

    private int lugs(int bar, int one, int other) {
        there(bar, 27);
        there(one + 1, 13);
        there(other + 1, 13);
        may(!open);
        bars[bar] = new int[] {one, other};
        return 0;
    }

    private int rule(int next) {
        there(next, 5);
        may(!open);
        int was = rule;
        rule = next;
        return was;
    }

    private int path(int next) {
        there(next, 3);
        may(!open);
        int was = path;
        path = next;
        return was;
    }

    private int set(int kind, int k, int p) {
        there(kind, 2);
        there(k, kind == 0 ? 6 : 12);
        there(p, kind == 0 ? m : pins[k].length);
        may(!open);
        int[] row = kind == 0 ? positions : places;
        int was = row[k];
        row[k] = p;
        steps.clear();
        return was;
    }

    private boolean up(int pinWheel) {
        return pinWheel != -1 && pins[pinWheel].length != 0 && pins[pinWheel][places[pinWheel]];
    }

    private boolean notched(int slot) {
        return notches[slots[slot]][positions[slot]];
    }

    private void step() {
        List<Integer> filled = new ArrayList<>();
        for (int s = 0; s < 6; s++) {
            if (slots[s] != -1) {
                filled.add(s);
            }
        }
        List<Integer> going = new ArrayList<>();
        for (int s : filled) {
            if (goes(s, filled)) {
                going.add(s);
            }
        }
        positions = positions.clone();
        for (int s : going) {
            positions[s] = (positions[s] + 1) % m;
        }
        places = places.clone();
        for (int k = 0; k < 12; k++) {
            places[k] = pins[k].length == 0 ? 0 : (places[k] + 1) % pins[k].length;
        }
    }

    private boolean goes(int s, List<Integer> filled) {
        int where = filled.indexOf(s);
        int last = filled.get(filled.size() - 1);
        switch (rule) {
            case 0: return filled.subList(0, where).stream().allMatch(this::notched);
            case 1: return where == 0 || notched(filled.get(where - 1)) || notched(s) && s != last;
            case 2: return !notched(filled.get((where + 1) % filled.size()));
            case 3: return pins[s].length == 0 || up(s);
            default: return s == last || !notched(last);
        }
    }

    private static int exchanged(int[] row, int c) {
        return row[c] == -1 ? c : row[c];
    }

    private int taken(int sign) {
        int c = exchanged(pairs[0], sign);
        if (path == 0) {
            c = wheels(c);
        } else if (path == 1 && m == 32) {
            for (int k = 0; k < 5; k++) {
                c ^= up(k) ^ up(k + 5) ? 1 << k : 0;
            }
        } else if (path == 2) {
            int n = 0;
            for (int[] bar : bars) {
                n += up(bar[0]) || up(bar[1]) ? 1 : 0;
            }
            c = Math.floorMod(n - c, m);
        }
        return exchanged(pairs[0], c);
    }

    private int wheels(int sign) {
        int c = sign;
        for (int s = 0; s < 6; s++) {
            c = wheel(s, c);
        }
        if (!reflecting) {
            return c;
        }
        c = exchanged(pairs[1], c);
        for (int s = 5; s >= 0; s--) {
            int came = 0;
            while (wheel(s, came) != c) {
                came++;
            }
            c = came;
        }
        return c;
    }

    private int wheel(int s, int c) {
        if (slots[s] == -1) {
            return c;
        }
        int p = positions[s];
        int r = rings[slots[s]];
        return Math.floorMod(wiring[slots[s]][Math.floorMod(c + p - r, m)] - p + r, m);
    }

    private void stepToUndo() {
        steps.add(new int[][] {positions, places});
        if (steps.size() > 40) {
            steps.remove(0);
        }
        step();
    }

    private int key(int sign) {
        there(sign, m);
        may(!open || messages.get(messages.size() - 1).signs.size() < 60);
        stepToUndo();
        int came = taken(sign);
        if (open) {
            messages.get(messages.size() - 1).signs.add(new int[] {sign, came});
        }
        return came;
    }

    private int back(int sign) {
        there(sign, m);
        may(!open);
        stepToUndo();
        int keyed = 0;
        while (taken(keyed) != sign) {
            keyed++;
        }
        return keyed;
    }

    private int undo() {
        may(!open && !steps.isEmpty());
        int[][] before = steps.remove(steps.size() - 1);
        positions = before[0].clone();
        places = before[1].clone();
        return steps.size();
    }

    private int period(int most) {
        fits(most >= 1 && most <= 5000);
        may(!open);
        int[] thePositions = positions.clone();
        int[] thePlaces = places.clone();
        int answer = 0;
        for (int n = 1; n <= most && answer == 0; n++) {
            step();
            answer = Arrays.equals(positions, thePositions) && Arrays.equals(places, thePlaces) ? n : 0;
        }
        positions = thePositions;
        places = thePlaces;
        return answer;
    }

    private int fixed() {
        int n = 0;
        for (int c = 0; c < m; c++) {
            n += taken(c) == c ? 1 : 0;
        }
        return n;
    }

    private int open() {
        may(!open && messages.size() < 20);
        Logged message = new Logged();
        message.positions = positions.clone();
        message.places = places.clone();
        messages.add(message);
        open = true;
        return messages.size() - 1;
    }

    private int close() {
        may(open);
        open = false;
        return messages.get(messages.size() - 1).signs.size();
    }

    private int logged(int message, int k, int what) {
        there(message, messages.size());
        there(k, messages.get(message).signs.size());
        fits(what == 0 || what == 1);
        return messages.get(message).signs.get(k)[what];
    }

    private int replay(int message) {
        there(message, messages.size());
        may(!open || message != messages.size() - 1);
        int[] thePositions = positions;
        int[] thePlaces = places;
        Logged logged = messages.get(message);
        positions = logged.positions.clone();
        places = logged.places.clone();
        for (int k = 0; k < 12; k++) {
            places[k] = pins[k].length == 0 ? 0 : places[k] % pins[k].length;
        }
        int answer = -1;
        for (int k = 0; k < logged.signs.size() && answer == -1; k++) {
            step();
            answer = taken(logged.signs.get(k)[0]) == logged.signs.get(k)[1] ? -1 : k;
        }
        positions = thePositions;
        places = thePlaces;
        return answer;
    }

    private int count(int what) {
        fits(what >= 0 && what <= 7);
        int[] all = {m, 0, 0, 0, 0, messages.size(), open ? 1 : 0, steps.size()};
        for (int wheel : slots) {
            all[1] += wheel == -1 ? 0 : 1;
        }
        for (int c = 0; c < m; c++) {
            all[2] += pairs[0][c] > c ? 1 : 0;
            all[3] += pairs[1][c] > c ? 1 : 0;
        }
        for (boolean[] row : pins) {
            all[4] += row.length == 0 ? 0 : 1;
        }
        return all[what];
    }
}
