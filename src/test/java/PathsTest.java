/** The three paths that a sign takes. */
public final class PathsTest {
    private static final Check CHECK = new Check("PathsTest");

    public static void main(String[] args) {
        slotsInOrder();
        positionAndRing();
        plugboardTwice();
        reflectingWay();
        enigma("A ring", 0, "BDZGO");
        enigma("B ring", 1, "EWTYX");
        enigmaDoubleStep();
        bits();
        bitsElsewhere();
        bars();
        moreBarsThanContacts();
        CHECK.end();
    }

    /** "0 through the filled slots, 0 first" */
    private static void slotsInOrder() {
        RotorBench x = new RotorBench();
        x.fill(4, 0);
        x.fill(1, 1);
        x.wire(1, 0, 1);
        x.wire(0, 1, 2);
        CHECK.is("slot 1, then slot 4", x.image(0), 2);
        CHECK.is("1 comes of nothing else", x.image(2), 1);
        CHECK.is("1 goes to 0", x.image(1), 0);
        // Path 0 has nothing to do with pins or bars.
        x.pins(0, 1);
        x.pin(0, 0, true);
        x.lugs(0, 0, 0);
        CHECK.is("pins do not matter", x.image(0), 2);
    }

    /** "in one with position p and a wheel with ring r and wiring w from c to w(c + p - r) - p + r, all modulo m" */
    private static void positionAndRing() {
        for (int m : new int[] {10, 26, 32}) {
            RotorBench x = new RotorBench();
            x.contacts(m);
            x.fill(2, 3);
            x.wire(3, 4, 8);
            x.set(0, 2, m - 2);
            x.ring(3, 3);
            // w(c + p - r) - p + r: the wiring is turned by p - r.
            int shift = m - 2 - 3;
            int enters = Math.floorMod(4 - shift, m);
            int leaves = Math.floorMod(8 - shift, m);
            CHECK.is("forth with " + m, x.image(enters), leaves);
            CHECK.is("the exchanged one with " + m, x.image(leaves), enters);
            CHECK.is("the others stay with " + m, x.fixed(), m - 2);
            x.set(0, 2, 1);
            x.ring(3, m - 1);
            shift = 1 - (m - 1);
            CHECK.is("ring above position with " + m, x.image(Math.floorMod(4 - shift, m)), Math.floorMod(8 - shift, m));
        }
    }

    /** "A SIGN c TAKES A PATH (0 at first): through the plugboard, the path, the plugboard again." */
    private static void plugboardTwice() {
        RotorBench x = new RotorBench();
        x.fill(0, 0);
        x.wire(0, 0, 1);
        x.plug(0, 5, 0);
        x.plug(0, 6, 1);
        CHECK.is("in and out by the plugboard", x.image(5), 6);
        CHECK.is("the other way", x.image(6), 5);
        CHECK.is("0 is 5 inside", x.image(0), 0);
        x.path(2);
        x.pins(0, 1);
        x.pin(0, 0, true);
        x.lugs(0, 0, 0);
        // 5 is 0 inside, 1 - 0 is 1, which leaves as 6.
        CHECK.is("the plugboard round path 2", x.image(5), 6);
    }

    /**
     * "then, if the machine REFLECTS (it does not at first), through the reflector and back through the slots, the last
     * first, by the wirings the other way round."
     */
    private static void reflectingWay() {
        RotorBench x = new RotorBench();
        x.fill(0, 0);
        x.fill(1, 1);
        x.wire(0, 0, 1);
        x.wire(0, 1, 2);
        x.wire(1, 1, 3);
        x.wire(1, 2, 4);
        x.plug(1, 3, 4);
        x.reflects(true);
        // 0 to 1 to 3, reflected to 4, back to 2 and to 1.
        CHECK.is("there and back", x.image(0), 1);
        CHECK.is("and the other way", x.image(1), 0);
        CHECK.is("contacts in no pair stay", x.image(9), 9);
        x.reflects(false);
        CHECK.is("without the reflector", x.image(0), 3);
        CHECK.is("without the reflector", x.image(1), 4);
    }

    private static void wiring(RotorBench x, int wheel, String letters) {
        for (int a = 0; a < 26; a++) {
            x.wire(wheel, a, letters.charAt(a) - 'A');
        }
    }

    /** Enigma I: wheels I, II, III from the left and reflector B; slot 0 is the right-hand one. */
    private static RotorBench enigmaOne() {
        RotorBench x = new RotorBench();
        wiring(x, 0, "EKMFLGDQVZNTOWYHXUSPAIBRCJ");
        wiring(x, 1, "AJDKSIRUXBLHWTMCQGZNPYFVOE");
        wiring(x, 2, "BDFHJLCPRTXVZNYEIWGAKMUSQO");
        x.notch(0, 'Q' - 'A', true);
        x.notch(1, 'E' - 'A', true);
        x.notch(2, 'V' - 'A', true);
        x.fill(0, 2);
        x.fill(1, 1);
        x.fill(2, 0);
        String pairs = "AYBRCUDHEQFSGLIPJXKNMOTZVW";
        for (int i = 0; i < 26; i += 2) {
            x.plug(1, pairs.charAt(i) - 'A', pairs.charAt(i + 1) - 'A');
        }
        x.reflects(true);
        x.rule(1);
        return x;
    }

    private static void enigma(String what, int ring, String due) {
        RotorBench x = enigmaOne();
        for (int wheel = 0; wheel < 3; wheel++) {
            x.ring(wheel, ring);
        }
        CHECK.is(what + ": no sign comes of itself", x.fixed(), 0);
        for (int i = 0; i < due.length(); i++) {
            CHECK.is(what + ": sign " + i, x.key(0), due.charAt(i) - 'A');
        }
        for (int i = 0; i < due.length(); i++) {
            x.undo();
        }
        for (int i = 0; i < due.length(); i++) {
            CHECK.is(what + ": read again " + i, x.key(due.charAt(i) - 'A'), 0);
        }
    }

    private static void enigmaDoubleStep() {
        RotorBench x = enigmaOne();
        x.set(0, 2, 'A' - 'A');
        x.set(0, 1, 'D' - 'A');
        x.set(0, 0, 'U' - 'A');
        String[] due = {"ADV", "AEW", "BFX", "BFY"};
        for (String windows : due) {
            x.key(0);
            for (int k = 0; k < 3; k++) {
                CHECK.is("double step to " + windows + ", window " + k, x.at(0, 2 - k), windows.charAt(k) - 'A');
            }
        }
    }

    /** "bit k of c, 0 .. 4, is turned over if just one of the pin wheels k and k + 5 has its active pin up." */
    private static void bits() {
        for (int k = 0; k < 5; k++) {
            RotorBench x = new RotorBench();
            x.contacts(32);
            x.path(1);
            x.pins(k, 2);
            x.pins(k + 5, 3);
            CHECK.is("bit " + k + ", both down", x.image(21), 21);
            x.pin(k, 0, true);
            CHECK.is("bit " + k + ", the one up", x.image(21), 21 ^ 1 << k);
            x.pin(k + 5, 0, true);
            CHECK.is("bit " + k + ", both up", x.image(21), 21);
            x.pin(k, 0, false);
            CHECK.is("bit " + k + ", the other up", x.image(21), 21 ^ 1 << k);
            x.pins(k, 0);
            CHECK.is("bit " + k + ", the one is none", x.image(21), 21 ^ 1 << k);
            x.key(0);
            CHECK.is("bit " + k + ", the next pin", x.image(21), 21);
        }
        RotorBench x = new RotorBench();
        x.contacts(32);
        x.path(1);
        x.pins(10, 1);
        x.pin(10, 0, true);
        x.pins(11, 1);
        x.pin(11, 0, true);
        CHECK.is("pin wheels 10 and 11 turn nothing", x.fixed(), 32);
        x.fill(0, 0);
        x.wire(0, 0, 1);
        x.plug(1, 3, 4);
        x.reflects(true);
        CHECK.is("wheels and reflector turn nothing", x.fixed(), 32);
        x.plug(0, 0, 31);
        x.pins(0, 1);
        x.pin(0, 0, true);
        CHECK.is("the plugboard round path 1", x.image(0), 30);
    }

    /** "1 (for 32 contacts; for others nothing happens here)" */
    private static void bitsElsewhere() {
        for (int m : new int[] {10, 26}) {
            RotorBench x = new RotorBench();
            x.contacts(m);
            x.path(1);
            x.pins(0, 1);
            x.pin(0, 0, true);
            x.plug(0, 0, 1);
            CHECK.is("nothing happens with " + m, x.fixed(), m);
            CHECK.is("key does nothing with " + m, x.key(3), 3);
            CHECK.is("back does nothing with " + m, x.back(3), 3);
        }
    }

    /** "2 to n - c modulo m, n being how many bars have a lug at a pin wheel whose active pin is up." */
    private static void bars() {
        RotorBench x = new RotorBench();
        x.path(2);
        CHECK.is("no bars, 0", x.image(0), 0);
        CHECK.is("no bars, 1", x.image(1), 25);
        CHECK.is("no bars, 25", x.image(25), 1);
        x.pins(3, 2);
        x.pin(3, 0, true);
        for (int bar = 0; bar < 27; bar++) {
            x.lugs(bar, 3, -1);
            CHECK.is((bar + 1) + " bars, 0", x.image(0), (bar + 1) % 26);
            CHECK.is((bar + 1) + " bars, 20", x.image(20), Math.floorMod(bar + 1 - 20, 26));
        }
        CHECK.is("the step goes first", x.key(0), 0);
        CHECK.is("and goes on", x.key(0), 1);
        x.fill(0, 0);
        x.wire(0, 0, 1);
        x.plug(1, 2, 3);
        x.reflects(true);
        CHECK.is("wheels and reflector turn nothing", x.image(0), 1);
        x.pins(3, 0);
        CHECK.is("a pin wheel that is none", x.image(0), 0);
    }

    private static void moreBarsThanContacts() {
        RotorBench x = new RotorBench();
        x.contacts(10);
        x.path(2);
        x.pins(11, 1);
        x.pin(11, 0, true);
        for (int bar = 0; bar < 27; bar++) {
            x.lugs(bar, -1, 11);
            for (int c = 0; c < 10; c += 3) {
                CHECK.is((bar + 1) + " bars of 10, " + c, x.image(c), Math.floorMod(bar + 1 - c, 10));
            }
        }
    }
}
