import java.util.ArrayList;
import java.util.List;

/**
 * Asks a bench for all that can be seen of it. That changes the bench, so each probe is made with a bench of its own;
 * each takes at most 350 calls, as a bench is good for 512.
 */
final class Probe {
    private static final int NONE = RotorBench.NONE;
    private static final int MOST_CALLS = 350;
    static final int PROBES = 6;

    private interface Asked {
        int answer();
    }

    private final RotorBench x;
    private final List<String> answers = new ArrayList<>();

    private Probe(RotorBench x) {
        this.x = x;
    }

    static List<String> look(RotorBench x, int which) {
        Probe probe = new Probe(x);
        probe.look(which);
        if (probe.answers.size() > MOST_CALLS) {
            throw new AssertionError("probe " + which + " takes " + probe.answers.size() + " calls");
        }
        return probe.answers;
    }

    private void look(int which) {
        int m = ask("contacts", () -> x.count(0));
        switch (which) {
            case 0: counts(m); undoings(); break;
            case 1: closed(); rings(); slots(); notches(m); break;
            case 2: closed(); wirings(m); break;
            case 3: closed(); pairs(m); pins(); choices(); break;
            case 4: closed(); bars(m); break;
            default: messages(); closed(); keys(m); break;
        }
    }

    private int ask(String what, Asked asked) {
        int got = NONE;
        String answer;
        try {
            got = asked.answer();
            answer = " answered " + got;
        } catch (RuntimeException e) {
            answer = " threw " + e.getClass().getSimpleName();
        }
        answers.add(what + answer);
        return got;
    }

    private static int bit(boolean on) {
        return on ? 1 : 0;
    }

    /** Settings are refused while a message is open, so an open one is closed first. */
    private void closed() {
        if (ask("is open", () -> x.count(6)) == 1) {
            ask("close", x::close);
        }
    }

    private void counts(int m) {
        for (int what = 1; what < 8; what++) {
            int one = what;
            ask("count " + one, () -> x.count(one));
        }
        ask("fixed", x::fixed);
        for (int c = 0; c < m; c++) {
            int sign = c;
            ask("image " + sign, () -> x.image(sign));
        }
        stand();
    }

    private void stand() {
        for (int s = 0; s < 6; s++) {
            int slot = s;
            ask("position " + slot, () -> x.at(0, slot));
        }
        for (int k = 0; k < 12; k++) {
            int wheel = k;
            ask("place " + wheel, () -> x.at(1, wheel));
        }
    }

    private void undoings() {
        closed();
        int many = ask("steps", () -> x.count(7));
        for (int i = 0; i < many; i++) {
            ask("undo", x::undo);
            if (i < 10) {
                stand();
            }
        }
        ask("undo one more", x::undo);
        stand();
    }

    private void rings() {
        for (int w = 0; w < 8; w++) {
            int wheel = w;
            ask("ring " + wheel, () -> x.ring(wheel, 0));
        }
    }

    private void slots() {
        for (int s = 0; s < 6; s++) {
            int slot = s;
            ask("slot " + slot, () -> x.fill(slot, NONE));
        }
    }

    private void notches(int m) {
        for (int w = 0; w < 8; w++) {
            for (int p = 0; p < m; p++) {
                int wheel = w;
                int position = p;
                ask("notch " + position + " of " + wheel, () -> bit(x.notch(wheel, position, false)));
            }
        }
    }

    private void choices() {
        ask("rule", () -> x.rule(0));
        ask("path", () -> x.path(0));
        ask("reflects", () -> bit(x.reflects(false)));
    }

    private void pairsOf(int part, int m) {
        for (int c = 0; c < m; c++) {
            int contact = c;
            ask("pair of " + contact + " in " + part, () -> x.unplug(part, contact));
        }
    }

    private void pairs(int m) {
        pairsOf(0, m);
        pairsOf(1, m);
    }

    /** Each wheel by itself in slot 0, with nothing else on its way. */
    private void wirings(int m) {
        choices();
        pairsOf(0, m);
        slots();
        ask("position 0", () -> x.set(0, 0, 0));
        for (int w = 0; w < 8; w++) {
            int wheel = w;
            ask("in slot 0", () -> x.fill(0, wheel));
            ask("ring " + wheel, () -> x.ring(wheel, 0));
            for (int c = 0; c < m; c++) {
                int contact = c;
                ask("wiring of " + wheel + " from " + contact, () -> x.image(contact));
            }
        }
    }

    /** The length is where the first pin is refused. */
    private void pins() {
        for (int k = 0; k < 12; k++) {
            boolean more = true;
            for (int p = 0; more && p <= 61; p++) {
                int wheel = k;
                int pin = p;
                more = ask("pin " + pin + " of " + wheel, () -> bit(x.pin(wheel, pin, false))) != NONE;
            }
        }
    }

    /** The bars that each pin wheel takes alone, then all of them, bar by bar. */
    private void bars(int m) {
        ask("path", () -> x.path(2));
        pairsOf(0, m);
        for (int k = 0; k < 12; k++) {
            int wheel = k;
            ask("length " + wheel, () -> x.pins(wheel, 1));
            ask("pin up", () -> bit(x.pin(wheel, 0, true)));
            ask("bars of " + wheel, () -> x.image(0));
            ask("pin down", () -> bit(x.pin(wheel, 0, false)));
        }
        for (int k = 0; k < 12; k++) {
            int wheel = k;
            ask("pin up", () -> bit(x.pin(wheel, 0, true)));
        }
        for (int b = 0; b < 27; b++) {
            int bar = b;
            ask("bars from " + bar, () -> x.image(0));
            ask("no lugs", () -> withoutLugs(bar));
        }
    }

    private int withoutLugs(int bar) {
        x.lugs(bar, NONE, NONE);
        return 0;
    }

    private void messages() {
        int many = ask("messages", () -> x.count(5));
        for (int i = 0; i < many; i++) {
            int message = i;
            ask("replay " + message, () -> x.replay(message));
            boolean more = true;
            for (int k = 0; more && k < 60; k++) {
                int sign = k;
                more = ask("keyed " + message + " " + sign, () -> x.logged(message, sign, 0)) != NONE;
                ask("came " + message + " " + sign, () -> x.logged(message, sign, 1));
            }
        }
    }

    private void keys(int m) {
        for (int i = 0; i < 20; i++) {
            int sign = i % m;
            ask("key " + sign, () -> x.key(sign));
        }
        stand();
        ask("period", () -> x.period(500));
        ask("open", x::open);
        ask("key", () -> x.key(0));
        ask("close", x::close);
        for (int i = 0; i < 40; i++) {
            ask("back", () -> x.back(1));
        }
        stand();
    }
}
