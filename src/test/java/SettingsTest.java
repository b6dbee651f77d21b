import java.util.NoSuchElementException;

/** Promises 1 to 15: the new object and its settings. */
public final class SettingsTest {
    private static final Class<NoSuchElementException> NSE = NoSuchElementException.class;
    private static final Class<IllegalArgumentException> IAE = IllegalArgumentException.class;
    private static final Class<IllegalStateException> ISE = IllegalStateException.class;
    private static final int NONE = RotorBench.NONE;
    private static final Check CHECK = new Check("SettingsTest");

    public static void main(String[] args) {
        newObject();
        contacts();
        contactsClearAll();
        wire();
        ring();
        notch();
        fill();
        plug();
        unplug();
        reflects();
        pins();
        pin();
        lugs();
        rule();
        path();
        set();
        openRefusesSettings();
        refusedSettingsChangeNothing();
        wrongArgumentsGoFirst();
        CHECK.end();
    }

    private static void isAsAtFirst(String when, RotorBench x, int contacts) {
        CHECK.is(when + " contacts", x.count(0), contacts);
        for (int what = 1; what <= 7; what++) {
            CHECK.is(when + " count " + what, x.count(what), 0);
        }
        for (int s = 0; s < 6; s++) {
            CHECK.is(when + " position " + s, x.at(0, s), 0);
        }
        for (int k = 0; k < 12; k++) {
            CHECK.is(when + " place " + k, x.at(1, k), 0);
        }
        CHECK.is(when + " all signs stay", x.fixed(), contacts);
    }

    private static void newObject() {
        RotorBench x = new RotorBench();
        isAsAtFirst("new", x, 26);
        CHECK.is("new period", x.period(1), 1);
        CHECK.is("new rule", x.rule(0), 0);
        CHECK.is("new path", x.path(0), 0);
        CHECK.is("new does not reflect", x.reflects(false), false);
        for (int w = 0; w < 8; w++) {
            CHECK.is("new ring " + w, x.ring(w, 0), 0);
            CHECK.is("new notch " + w, x.notch(w, 0, false), false);
            CHECK.is("new last notch " + w, x.notch(w, 25, false), false);
        }
        for (int s = 0; s < 6; s++) {
            CHECK.is("new slot " + s, x.fill(s, NONE), NONE);
        }
        for (int k = 0; k < 12; k++) {
            CHECK.is("new length " + k, x.pins(k, 0), 0);
        }
        CHECK.refuses("new undo", ISE, x::undo);
        CHECK.refuses("new close", ISE, x::close);
    }

    private static void contacts() {
        RotorBench x = new RotorBench();
        CHECK.is("contacts(10)", x.contacts(10), 26);
        CHECK.is("contacts(32)", x.contacts(32), 10);
        CHECK.is("contacts(26)", x.contacts(26), 32);
        CHECK.is("contacts(26) again", x.contacts(26), 26);
        for (int m : new int[] {0, -1, 9, 11, 25, 27, 31, 33, -26, Integer.MIN_VALUE, Integer.MAX_VALUE}) {
            CHECK.refuses("contacts(" + m + ")", IAE, () -> x.contacts(m));
        }
        CHECK.is("refused contacts", x.count(0), 26);
        x.open();
        CHECK.refuses("contacts while open", ISE, () -> x.contacts(26));
        CHECK.refuses("wrong contacts while open", IAE, () -> x.contacts(5));
        CHECK.is("the message is still open", x.count(6), 1);
    }

    /** Everything is set to something, so that whatever is forgotten shows. */
    private static RotorBench crowded() {
        RotorBench x = new RotorBench();
        for (int w = 0; w < 8; w++) {
            x.wire(w, w, 9 - w == w ? 0 : 9 - w);
            x.ring(w, w + 1);
            x.notch(w, w, true);
        }
        for (int s = 0; s < 6; s++) {
            x.fill(s, 7 - s);
            x.set(0, s, s + 1);
        }
        x.plug(0, 0, 9);
        x.plug(1, 1, 8);
        x.reflects(true);
        for (int k = 0; k < 12; k++) {
            x.pins(k, k + 2);
            x.pin(k, 0, true);
            x.pin(k, k + 1, true);
            x.set(1, k, k);
        }
        for (int bar = 0; bar < 27; bar++) {
            x.lugs(bar, bar % 12, NONE);
        }
        x.rule(4);
        x.path(2);
        x.open();
        x.key(0);
        x.close();
        return x;
    }

    private static void contactsClearAll() {
        for (int m : new int[] {10, 26, 32}) {
            RotorBench x = crowded();
            CHECK.is("crowded contacts(" + m + ")", x.contacts(m), 26);
            isAsAtFirst("cleared to " + m, x, m);
            CHECK.refuses("no message after contacts", NSE, () -> x.replay(0));
            CHECK.refuses("nothing logged after contacts", NSE, () -> x.logged(0, 0, 0));
            CHECK.refuses("no undo after contacts", ISE, x::undo);
            CHECK.is("cleared reflects", x.reflects(false), false);
            CHECK.is("cleared rule", x.rule(0), 0);
            CHECK.is("cleared path", x.path(2), 0);
            x.pins(0, 1);
            x.pin(0, 0, true);
            x.pins(11, 1);
            x.pin(11, 0, true);
            CHECK.is("cleared lugs", x.image(0), 0);
            x.path(0);
            for (int w = 0; w < 8; w++) {
                CHECK.is("cleared ring " + w, x.ring(w, 0), 0);
                CHECK.is("cleared notch " + w, x.notch(w, w, false), false);
                CHECK.is("cleared wheel " + w + " in no slot", x.fill(0, w), w == 0 ? NONE : w - 1);
                CHECK.is("cleared wiring " + w, x.fixed(), m);
            }
            for (int k = 0; k < 12; k++) {
                CHECK.is("cleared length " + k, x.pins(k, 61), k == 0 || k == 11 ? 1 : 0);
                CHECK.is("cleared pin " + k, x.pin(k, k + 1, false), false);
            }
            CHECK.is("the first message again", x.open(), 0);
            CHECK.is("an empty message", x.close(), 0);
        }
    }

    private static void wire() {
        RotorBench x = new RotorBench();
        x.contacts(10);
        x.fill(3, 5);
        CHECK.is("wire 0 to 3", x.wire(5, 0, 3), 3);
        CHECK.is("0 leads to 3", x.image(0), 3);
        CHECK.is("3 leads to 0", x.image(3), 0);
        CHECK.is("wire 0 to 3 again", x.wire(5, 0, 3), 0);
        CHECK.is("0 still leads to 3", x.image(0), 3);
        CHECK.is("wire 0 to 5", x.wire(5, 0, 5), 5);
        CHECK.is("0 leads to 5", x.image(0), 5);
        CHECK.is("5 leads to 3", x.image(5), 3);
        CHECK.is("3 leads to 0 still", x.image(3), 0);
        CHECK.is("wire 4 to 3", x.wire(5, 4, 3), 5);
        CHECK.is("4 leads to 3", x.image(4), 3);
        CHECK.is("5 leads to 4", x.image(5), 4);
        CHECK.is("wire 9 to 9", x.wire(5, 9, 9), 9);
        CHECK.is("9 stays", x.image(9), 9);
        CHECK.is("another wheel is its own", x.wire(4, 3, 0), 0);
        for (int wheel : new int[] {-1, 8, Integer.MIN_VALUE, Integer.MAX_VALUE}) {
            CHECK.refuses("wire of wheel " + wheel, NSE, () -> x.wire(wheel, 0, 0));
        }
        for (int c : new int[] {-1, 10, 26, Integer.MIN_VALUE, Integer.MAX_VALUE}) {
            CHECK.refuses("wire from " + c, NSE, () -> x.wire(0, c, 0));
            CHECK.refuses("wire to " + c, NSE, () -> x.wire(0, 0, c));
        }
    }

    private static void ring() {
        RotorBench x = new RotorBench();
        CHECK.is("ring 3", x.ring(7, 3), 0);
        CHECK.is("ring 25", x.ring(7, 25), 3);
        CHECK.is("ring 0", x.ring(7, 0), 25);
        CHECK.refuses("ring 26", NSE, () -> x.ring(7, 26));
        CHECK.refuses("ring -1", NSE, () -> x.ring(7, -1));
        CHECK.refuses("ring of wheel 8", NSE, () -> x.ring(8, 0));
        CHECK.refuses("ring of wheel -1", NSE, () -> x.ring(-1, 0));
        CHECK.is("ring after the refused ones", x.ring(7, 1), 0);
        x.contacts(32);
        CHECK.is("ring 31 of 32", x.ring(0, 31), 0);
        // w(c + p - r) - p + r with p = 0, r = 31: contact 0 enters the wiring at 1.
        x.fill(0, 0);
        x.wire(0, 1, 7);
        CHECK.is("the ring turns the wiring", x.image(0), 6);
        CHECK.is("the ring turns the other end", x.image(6), 0);
    }

    private static void notch() {
        RotorBench x = new RotorBench();
        CHECK.is("a notch", x.notch(2, 25, true), true);
        CHECK.is("a notch again", x.notch(2, 25, true), false);
        CHECK.is("no notch", x.notch(2, 25, false), true);
        CHECK.is("no notch again", x.notch(2, 25, false), false);
        CHECK.is("another wheel's notch", x.notch(3, 25, false), false);
        CHECK.refuses("notch at 26", NSE, () -> x.notch(2, 26, true));
        CHECK.refuses("notch at -1", NSE, () -> x.notch(2, -1, true));
        CHECK.refuses("notch of wheel 8", NSE, () -> x.notch(8, 0, true));
        CHECK.refuses("notch of wheel -1", NSE, () -> x.notch(-1, 0, true));
    }

    private static void fill() {
        RotorBench x = new RotorBench();
        CHECK.is("fill 0", x.fill(0, 3), NONE);
        CHECK.is("fill 0 with the same", x.fill(0, 3), 3);
        CHECK.is("fill 5", x.fill(5, 7), NONE);
        CHECK.is("two filled", x.count(1), 2);
        CHECK.refuses("a wheel in two slots", ISE, () -> x.fill(1, 3));
        CHECK.is("still two filled", x.count(1), 2);
        CHECK.is("another wheel", x.fill(0, 4), 3);
        CHECK.is("the first wheel is free", x.fill(1, 3), NONE);
        CHECK.is("empty 0", x.fill(0, NONE), 4);
        CHECK.is("empty 0 again", x.fill(0, NONE), NONE);
        CHECK.is("two filled again", x.count(1), 2);
        for (int slot : new int[] {-1, 6, Integer.MIN_VALUE, Integer.MAX_VALUE}) {
            CHECK.refuses("fill slot " + slot, NSE, () -> x.fill(slot, 0));
        }
        for (int wheel : new int[] {-2, 8, Integer.MIN_VALUE, Integer.MAX_VALUE}) {
            CHECK.refuses("fill with " + wheel, NSE, () -> x.fill(0, wheel));
        }
        x.set(0, 2, 9);
        x.fill(2, 0);
        CHECK.is("a slot keeps its position when filled", x.at(0, 2), 9);
        x.fill(2, NONE);
        CHECK.is("a slot keeps its position when emptied", x.at(0, 2), 9);
    }

    private static void plug() {
        RotorBench x = new RotorBench();
        x.reflects(true);
        x.plug(0, 0, 25);
        x.plug(1, 0, 24);
        CHECK.is("pairs of the plugboard", x.count(2), 1);
        CHECK.is("pairs of the reflector", x.count(3), 1);
        CHECK.is("25 through both", x.image(25), 24);
        CHECK.is("24 through both", x.image(24), 25);
        CHECK.is("0 through both", x.image(0), 0);
        CHECK.is("1 stays", x.image(1), 1);
        CHECK.refuses("plug one in a pair", ISE, () -> x.plug(0, 25, 1));
        CHECK.refuses("plug another in a pair", ISE, () -> x.plug(0, 1, 0));
        CHECK.refuses("plug the pair again", ISE, () -> x.plug(1, 24, 0));
        CHECK.refuses("plug one with itself", IAE, () -> x.plug(0, 3, 3));
        CHECK.refuses("plug a paired one with itself", IAE, () -> x.plug(0, 25, 25));
        CHECK.refuses("plug part 2", NSE, () -> x.plug(2, 1, 2));
        CHECK.refuses("plug part -1", NSE, () -> x.plug(-1, 1, 2));
        for (int c : new int[] {-1, 26, Integer.MIN_VALUE, Integer.MAX_VALUE}) {
            CHECK.refuses("plug " + c, NSE, () -> x.plug(0, c, 1));
            CHECK.refuses("plug to " + c, NSE, () -> x.plug(1, 1, c));
            CHECK.refuses("plug twice " + c, NSE, () -> x.plug(1, c, c));
        }
        CHECK.is("pairs after the refused ones", x.count(2) + x.count(3), 2);
        CHECK.is("1 still stays", x.image(1), 1);
    }

    private static void unplug() {
        RotorBench x = new RotorBench();
        x.plug(0, 4, 7);
        x.plug(1, 4, 8);
        CHECK.is("unplug 7", x.unplug(0, 7), 4);
        CHECK.is("no pair", x.count(2), 0);
        CHECK.is("the reflector has its own", x.count(3), 1);
        CHECK.is("unplug 7 again", x.unplug(0, 7), NONE);
        CHECK.is("unplug 4", x.unplug(0, 4), NONE);
        CHECK.is("still no pair", x.count(2), 0);
        x.plug(0, 7, 5);
        CHECK.is("plugged anew", x.unplug(0, 5), 7);
        CHECK.is("unplug 4 of the reflector", x.unplug(1, 4), 8);
        CHECK.is("unplug 8 of the reflector", x.unplug(1, 8), NONE);
        CHECK.refuses("unplug part 2", NSE, () -> x.unplug(2, 0));
        CHECK.refuses("unplug part -1", NSE, () -> x.unplug(-1, 0));
        CHECK.refuses("unplug 26", NSE, () -> x.unplug(0, 26));
        CHECK.refuses("unplug -1", NSE, () -> x.unplug(0, -1));
    }

    private static void reflects() {
        RotorBench x = new RotorBench();
        x.plug(1, 2, 3);
        CHECK.is("the reflector is not used at first", x.image(2), 2);
        CHECK.is("reflects", x.reflects(true), true);
        CHECK.is("reflects again", x.reflects(true), false);
        CHECK.is("the reflector is used", x.image(2), 3);
        CHECK.is("reflects no more", x.reflects(false), true);
        CHECK.is("reflects no more again", x.reflects(false), false);
        CHECK.is("the reflector is not used", x.image(2), 2);
    }

    private static void pins() {
        RotorBench x = new RotorBench();
        CHECK.is("61 pins", x.pins(11, 61), 0);
        CHECK.is("one pin wheel", x.count(4), 1);
        x.pin(11, 60, true);
        x.pin(11, 0, true);
        x.set(1, 11, 60);
        x.key(0);
        x.key(0);
        CHECK.is("two steps", x.count(7), 2);
        CHECK.is("61 pins again", x.pins(11, 61), 61);
        CHECK.is("nothing to undo", x.count(7), 0);
        CHECK.is("its place is 0", x.at(1, 11), 0);
        CHECK.is("pin 60 is down", x.pin(11, 60, false), false);
        CHECK.is("pin 0 is down", x.pin(11, 0, false), false);
        CHECK.is("5 pins", x.pins(11, 5), 61);
        x.set(1, 11, 4);
        CHECK.is("none", x.pins(11, 0), 5);
        CHECK.is("its place is 0 for none", x.at(1, 11), 0);
        CHECK.is("no pin wheel", x.count(4), 0);
        CHECK.refuses("pins of 12", NSE, () -> x.pins(12, 1));
        CHECK.refuses("pins of -1", NSE, () -> x.pins(-1, 1));
        CHECK.refuses("pins of 12, wrong length", NSE, () -> x.pins(12, 62));
        for (int length : new int[] {-1, 62, Integer.MIN_VALUE, Integer.MAX_VALUE}) {
            CHECK.refuses("pins " + length, IAE, () -> x.pins(0, length));
        }
        x.key(0);
        CHECK.refuses("pins 62", IAE, () -> x.pins(0, 62));
        CHECK.is("a refused call leaves the steps", x.count(7), 1);
    }

    private static void pin() {
        RotorBench x = new RotorBench();
        CHECK.refuses("a pin of none", NSE, () -> x.pin(0, 0, true));
        x.pins(0, 3);
        CHECK.is("pin 2 up", x.pin(0, 2, true), true);
        CHECK.is("pin 2 up again", x.pin(0, 2, true), false);
        CHECK.is("pin 2 down", x.pin(0, 2, false), true);
        CHECK.is("pin 2 down again", x.pin(0, 2, false), false);
        CHECK.is("pin 0 is its own", x.pin(0, 0, false), false);
        CHECK.refuses("pin 3", NSE, () -> x.pin(0, 3, true));
        CHECK.refuses("pin -1", NSE, () -> x.pin(0, -1, true));
        CHECK.refuses("pin of 12", NSE, () -> x.pin(12, 0, true));
        CHECK.refuses("pin of -1", NSE, () -> x.pin(-1, 0, true));
        x.pins(0, 1);
        x.pins(0, 3);
        x.key(0);
        CHECK.is("a pin", x.pin(0, 1, true), true);
        CHECK.is("a pin leaves the steps", x.count(7), 1);
    }

    private static void lugs() {
        RotorBench x = new RotorBench();
        x.path(2);
        x.pins(0, 1);
        x.pin(0, 0, true);
        x.pins(11, 1);
        x.pin(11, 0, true);
        x.pins(5, 1);
        CHECK.is("no bar", x.image(0), 0);
        x.lugs(0, 0, 11);
        CHECK.is("two lugs at up pins are one bar", x.image(0), 1);
        x.lugs(26, NONE, 11);
        CHECK.is("the other lug alone", x.image(0), 2);
        x.lugs(13, 0, 0);
        CHECK.is("both at one", x.image(0), 3);
        x.lugs(12, 5, 5);
        CHECK.is("a pin that is down", x.image(0), 3);
        x.lugs(11, 7, 8);
        CHECK.is("pin wheels that are none", x.image(0), 3);
        x.lugs(0, NONE, NONE);
        CHECK.is("lugs at none", x.image(0), 2);
        x.lugs(26, 5, NONE);
        CHECK.is("lugs moved", x.image(0), 1);
        CHECK.refuses("bar 27", NSE, () -> x.lugs(27, 0, 0));
        CHECK.refuses("bar -1", NSE, () -> x.lugs(-1, 0, 0));
        for (int k : new int[] {-2, 12, Integer.MIN_VALUE, Integer.MAX_VALUE}) {
            CHECK.refuses("lug one at " + k, NSE, () -> x.lugs(1, k, 0));
            CHECK.refuses("lug other at " + k, NSE, () -> x.lugs(1, 0, k));
        }
        CHECK.is("refused lugs", x.image(0), 1);
    }

    private static void rule() {
        RotorBench x = new RotorBench();
        CHECK.is("rule 4", x.rule(4), 0);
        CHECK.is("rule 1", x.rule(1), 4);
        for (int rule : new int[] {-1, 5, Integer.MIN_VALUE, Integer.MAX_VALUE}) {
            CHECK.refuses("rule " + rule, NSE, () -> x.rule(rule));
        }
        CHECK.is("rule 0", x.rule(0), 1);
    }

    private static void path() {
        RotorBench x = new RotorBench();
        CHECK.is("path 2", x.path(2), 0);
        CHECK.is("path 1", x.path(1), 2);
        for (int path : new int[] {-1, 3, Integer.MIN_VALUE, Integer.MAX_VALUE}) {
            CHECK.refuses("path " + path, NSE, () -> x.path(path));
        }
        CHECK.is("path 0", x.path(0), 1);
    }

    private static void set() {
        RotorBench x = new RotorBench();
        x.fill(0, 0);
        x.key(0);
        CHECK.is("set a position", x.set(0, 0, 25), 1);
        CHECK.is("nothing to undo", x.count(7), 0);
        CHECK.is("the position", x.at(0, 0), 25);
        CHECK.is("set an empty slot", x.set(0, 5, 3), 0);
        CHECK.is("set it again", x.set(0, 5, 0), 3);
        x.pins(11, 4);
        x.key(0);
        CHECK.is("set a place", x.set(1, 11, 3), 1);
        CHECK.is("nothing to undo after a place", x.count(7), 0);
        CHECK.is("the place", x.at(1, 11), 3);
        x.key(0);
        CHECK.is("set to what it is", x.set(1, 11, 0), 0);
        CHECK.is("nothing to undo all the same", x.count(7), 0);
        x.key(0);
        CHECK.refuses("kind 2", NSE, () -> x.set(2, 0, 0));
        CHECK.refuses("kind -1", NSE, () -> x.set(-1, 0, 0));
        CHECK.refuses("slot 6", NSE, () -> x.set(0, 6, 0));
        CHECK.refuses("slot -1", NSE, () -> x.set(0, -1, 0));
        CHECK.refuses("position 26", NSE, () -> x.set(0, 0, 26));
        CHECK.refuses("position -1", NSE, () -> x.set(0, 0, -1));
        CHECK.refuses("pin wheel 12", NSE, () -> x.set(1, 12, 0));
        CHECK.refuses("pin wheel -1", NSE, () -> x.set(1, -1, 0));
        CHECK.refuses("place 4", NSE, () -> x.set(1, 11, 4));
        CHECK.refuses("place -1", NSE, () -> x.set(1, 11, -1));
        CHECK.refuses("a place of none", NSE, () -> x.set(1, 0, 0));
        CHECK.is("a refused set leaves the steps", x.count(7), 1);
    }

    private static void openRefusesSettings() {
        RotorBench x = new RotorBench();
        x.pins(0, 2);
        x.open();
        refusesAllSettings(x);
        x.close();
        CHECK.is("settings are taken again", x.ring(0, 1), 0);
    }

    private static void refusesAllSettings(RotorBench x) {
        CHECK.refuses("open: contacts", ISE, () -> x.contacts(10));
        CHECK.refuses("open: wire", ISE, () -> x.wire(0, 0, 1));
        CHECK.refuses("open: ring", ISE, () -> x.ring(0, 5));
        CHECK.refuses("open: notch", ISE, () -> x.notch(0, 0, true));
        CHECK.refuses("open: fill", ISE, () -> x.fill(1, 1));
        CHECK.refuses("open: empty", ISE, () -> x.fill(0, NONE));
        CHECK.refuses("open: plug", ISE, () -> x.plug(0, 0, 1));
        CHECK.refuses("open: plug the reflector", ISE, () -> x.plug(1, 0, 1));
        CHECK.refuses("open: unplug", ISE, () -> x.unplug(0, 5));
        CHECK.refuses("open: reflects", ISE, () -> x.reflects(true));
        CHECK.refuses("open: does not reflect", ISE, () -> x.reflects(false));
        CHECK.refuses("open: pins", ISE, () -> x.pins(0, 3));
        CHECK.refuses("open: pin", ISE, () -> x.pin(0, 1, true));
        CHECK.refuses("open: lugs", ISE, () -> x.lugs(0, 0, 0));
        CHECK.refuses("open: rule", ISE, () -> x.rule(2));
        CHECK.refuses("open: path", ISE, () -> x.path(2));
        CHECK.refuses("open: set", ISE, () -> x.set(0, 0, 1));
        CHECK.refuses("open: set a place", ISE, () -> x.set(1, 0, 1));
    }

    private static void refusedSettingsChangeNothing() {
        RotorBench x = new RotorBench();
        x.fill(0, 0);
        x.wire(0, 2, 3);
        x.plug(0, 5, 6);
        x.pins(0, 2);
        x.key(0);
        int[] before = new int[26];
        for (int c = 0; c < 26; c++) {
            before[c] = x.image(c);
        }
        x.open();
        refusesAllSettings(x);
        for (int c = 0; c < 26; c++) {
            CHECK.is("image " + c + " after refused settings", x.image(c), before[c]);
        }
        CHECK.is("a step to undo", x.count(7), 1);
        CHECK.is("position", x.at(0, 0), 1);
        CHECK.is("place", x.at(1, 0), 1);
        x.close();
        CHECK.is("refused rule", x.rule(0), 0);
        CHECK.is("refused path", x.path(0), 0);
        CHECK.is("refused ring", x.ring(0, 0), 0);
        CHECK.is("refused notch", x.notch(0, 0, false), false);
        CHECK.is("refused reflects", x.reflects(false), false);
        CHECK.is("refused pin", x.pin(0, 1, false), false);
        CHECK.is("refused pins", x.pins(0, 2), 2);
        CHECK.is("refused fill", x.fill(1, NONE), NONE);
        CHECK.is("refused unplug", x.unplug(0, 6), 5);
        CHECK.is("refused plug", x.count(2) + x.count(3), 0);
    }

    private static void wrongArgumentsGoFirst() {
        RotorBench x = new RotorBench();
        x.fill(0, 0);
        x.plug(0, 1, 2);
        x.open();
        CHECK.refuses("open: wire of wheel 8", NSE, () -> x.wire(8, 0, 0));
        CHECK.refuses("open: ring 26", NSE, () -> x.ring(0, 26));
        CHECK.refuses("open: notch at 26", NSE, () -> x.notch(0, 26, true));
        CHECK.refuses("open: fill slot 6", NSE, () -> x.fill(6, 0));
        CHECK.refuses("open: fill with 8", NSE, () -> x.fill(1, 8));
        CHECK.refuses("open: plug part 2", NSE, () -> x.plug(2, 0, 0));
        CHECK.refuses("open: plug one with itself", IAE, () -> x.plug(0, 1, 1));
        CHECK.refuses("open: unplug 26", NSE, () -> x.unplug(0, 26));
        CHECK.refuses("open: pins of 12", NSE, () -> x.pins(12, 99));
        CHECK.refuses("open: pins 62", IAE, () -> x.pins(0, 62));
        CHECK.refuses("open: pin of none", NSE, () -> x.pin(0, 0, true));
        CHECK.refuses("open: bar 27", NSE, () -> x.lugs(27, 0, 0));
        CHECK.refuses("open: rule 5", NSE, () -> x.rule(5));
        CHECK.refuses("open: path 3", NSE, () -> x.path(3));
        CHECK.refuses("open: set kind 2", NSE, () -> x.set(2, 0, 0));
        CHECK.refuses("open: set a place of none", NSE, () -> x.set(1, 0, 0));
    }
}
