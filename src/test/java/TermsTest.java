import java.util.NoSuchElementException;

/** The sentences of 'Terms' in their order, each quoted above its tests; StepsTest and PathsTest hold the rules and paths. */
public final class TermsTest {
    private static final Class<NoSuchElementException> NSE = NoSuchElementException.class;
    private static final int NONE = RotorBench.NONE;
    private static final Check CHECK = new Check("TermsTest");

    public static void main(String[] args) {
        contactsAtFirst();
        for (int m : Benches.CONTACTS) {
            wheelsAtFirst(m);
            wheelsKeepWhatIsTheirs(m);
            slotsAtFirst(m);
            positionsAreOfTheSlots(m);
            pairsExchange(m);
            pinWheelsAtFirst(m);
        }
        placesAreOfThePinWheels();
        barsAtFirst();
        barsKeepTheirLugs();
        ruleAndPathAtFirst();
        notchOfItsWheelAtItsPosition();
        notchWhateverTheRing();
        notchOfOthers();
        keyStepsThenSends();
        messagesAreLoggedWith();
        noSuch();
        CHECK.end();
    }

    /** "CONTACTS are 0 .. m - 1, m is 10, 26 or 32 (26 at first)." */
    private static void contactsAtFirst() {
        RotorBench x = new RotorBench();
        CHECK.is("contacts at first", x.count(0), 26);
        CHECK.is("the first contact", x.image(0), 0);
        CHECK.is("the last contact", x.image(25), 25);
        CHECK.refuses("contact 26", NSE, () -> x.image(26));
        for (int m : Benches.CONTACTS) {
            x.contacts(m);
            CHECK.is("contacts", x.count(0), m);
            CHECK.is("the first of " + m, x.image(0), 0);
            CHECK.is("the last of " + m, x.image(m - 1), m - 1);
            CHECK.refuses("one more than " + m, NSE, () -> x.image(m));
        }
    }

    /**
     * "WHEELS are 0 .. 7; each has a WIRING, a permutation of the contacts (each to itself at first), a RING 0 .. m - 1
     * (0 at first), and NOTCHES at some positions 0 .. m - 1 (none at first)."
     */
    private static void wheelsAtFirst(int m) {
        RotorBench x = Benches.bare(m);
        for (int w = 0; w < 8; w++) {
            x.fill(0, w);
            for (int c = 0; c < m; c++) {
                CHECK.is("wiring of " + w + " from " + c, x.image(c), c);
            }
            CHECK.is("ring of " + w, x.ring(w, 0), 0);
        }
        for (int w = 0; w < 8; w++) {
            // With a notch anywhere the second slot would step once in m steps.
            RotorBench y = Benches.bare(m);
            y.fill(0, w);
            y.fill(1, (w + 1) % 8);
            for (int i = 0; i < m; i++) {
                y.key(0);
            }
            CHECK.is("wheel " + w + " has no notch", y.at(0, 1), 0);
        }
    }

    /** "each has a WIRING [..] a RING [..] and NOTCHES": in whichever slot it is, and while it is in none. */
    private static void wheelsKeepWhatIsTheirs(int m) {
        RotorBench x = Benches.bare(m);
        x.fill(5, 7);
        for (int s = 0; s < 5; s++) {
            x.wire(s, 0, s + 1);
            x.wire(s, 1, 9);
            x.ring(s, s + 2);
            x.notch(s, 0, true);
            for (int slot = 0; slot < 5; slot++) {
                x.fill(slot, s);
                x.set(0, slot, s + 2);
                CHECK.is("wiring of " + s + " in slot " + slot, x.image(0), s + 1);
                x.set(0, slot, s + 1);
                CHECK.is("ring of " + s + " in slot " + slot, x.image(1), s + 2);
                x.set(0, slot, 0);
                x.set(0, 5, 0);
                x.key(0);
                CHECK.is("notch of " + s + " in slot " + slot, x.at(0, 5), 1);
                CHECK.is("the wheel goes", x.fill(slot, NONE), s);
            }
            CHECK.is("ring of " + s + " in no slot", x.ring(s, 0), s + 2);
            CHECK.is("notch of " + s + " in no slot", x.notch(s, 0, true), false);
            CHECK.is("wiring of " + s + " in no slot", x.wire(s, 0, s + 1), 0);
        }
    }

    /** "SLOTS are 0 .. 5; each is empty, or FILLED by a wheel that is in no other one, and has a POSITION 0 .. m - 1 (0 at first)." */
    private static void slotsAtFirst(int m) {
        RotorBench x = Benches.bare(m);
        for (int s = 0; s < 6; s++) {
            CHECK.is("position of " + s, x.at(0, s), 0);
            CHECK.is("slot " + s + " is empty", x.fill(s, s), NONE);
            CHECK.is("position of " + s + ", filled", x.at(0, s), 0);
            CHECK.is("so many are filled", x.count(1), s + 1);
        }
        for (int s = 0; s < 6; s++) {
            int slot = s;
            for (int other = 0; other < 6; other++) {
                int wheel = other;
                if (wheel != slot) {
                    CHECK.refuses("wheel " + wheel + " is in another", IllegalStateException.class, () -> x.fill(slot, wheel));
                }
            }
        }
    }

    /** "and has a POSITION": the slot has it, not its wheel. */
    private static void positionsAreOfTheSlots(int m) {
        RotorBench x = Benches.bare(m);
        for (int s = 0; s < 6; s++) {
            x.fill(s, s);
            x.set(0, s, m - 1 - s);
        }
        for (int s = 0; s < 6; s++) {
            x.fill(s, NONE);
        }
        for (int s = 0; s < 6; s++) {
            CHECK.is("position of " + s + ", empty", x.at(0, s), m - 1 - s);
            x.fill(s, 5 - s);
            CHECK.is("position of " + s + ", another's wheel", x.at(0, s), m - 1 - s);
            x.fill(s, s < 3 ? 6 : 7);
            CHECK.is("position of " + s + ", a new wheel", x.at(0, s), m - 1 - s);
            x.fill(s, NONE);
        }
    }

    /** "THE PLUGBOARD and THE REFLECTOR exchange the contacts of their pairs; others stay." */
    private static void pairsExchange(int m) {
        RotorBench x = Benches.bare(m);
        x.plug(1, 0, m - 1);
        x.plug(1, 3, 4);
        x.reflects(true);
        int[] reflected = {m - 1, 1, 2, 4, 3, 5};
        for (int c = 0; c < 6; c++) {
            CHECK.is("reflected " + c, x.image(c), reflected[c]);
        }
        CHECK.is("reflected, the last", x.image(m - 1), 0);
        // The plugboard renames what goes in and what comes out.
        x.plug(0, 5, 0);
        x.plug(0, 4, 2);
        int[] renamed = {0, 1, 3, 2, 4, m - 1};
        for (int c = 0; c < 6; c++) {
            CHECK.is("renamed " + c, x.image(c), renamed[c]);
        }
        CHECK.is("renamed, the last", x.image(m - 1), 5);
    }

    /**
     * "PIN WHEELS are 0 .. 11; each has a length 0 .. 61 (0 at first: it is none), as many PINS, up or down (down at
     * first), and a place 0 .. length - 1; its ACTIVE pin is that at its place."
     */
    private static void pinWheelsAtFirst(int m) {
        RotorBench x = Benches.bare(m);
        x.path(2);
        for (int k = 0; k < 12; k++) {
            int wheel = k;
            CHECK.is("place of " + k, x.at(1, k), 0);
            CHECK.refuses("none has no pin", NSE, () -> x.pin(wheel, 0, true));
            CHECK.refuses("none has no place", NSE, () -> x.set(1, wheel, 0));
            x.lugs(0, k, NONE);
            CHECK.is("length of " + k, x.pins(k, 5), 0);
            for (int pin = 0; pin < 5; pin++) {
                CHECK.is("place of " + k + " before", x.set(1, k, pin), Math.max(0, pin - 1));
                CHECK.is("pin " + pin + " of " + k + " is down", x.image(0), 0);
                CHECK.is("pin " + pin + " of " + k, x.pin(k, pin, true), true);
                CHECK.is("pin " + pin + " of " + k + " is active", x.image(0), 1);
                x.pin(k, pin, false);
            }
            CHECK.refuses("no sixth pin", NSE, () -> x.pin(wheel, 5, true));
            CHECK.refuses("no sixth place", NSE, () -> x.set(1, wheel, 5));
        }
    }

    /** "and a place 0 .. length - 1": no slot and no other pin wheel moves with it. */
    private static void placesAreOfThePinWheels() {
        RotorBench x = new RotorBench();
        for (int k = 0; k < 12; k++) {
            x.pins(k, 13 + k);
        }
        for (int k = 0; k < 12; k++) {
            x.set(1, k, k + 1);
            for (int other = 0; other < 12; other++) {
                CHECK.is("place of " + other + " after that of " + k, x.at(1, other), other <= k ? other + 1 : 0);
            }
        }
        for (int s = 0; s < 6; s++) {
            CHECK.is("position of " + s, x.at(0, s), 0);
            x.set(0, s, 20 + s);
        }
        for (int k = 0; k < 12; k++) {
            CHECK.is("place of " + k + " after the positions", x.at(1, k), k + 1);
        }
    }

    /** A bench on path 2 with one pin, that is up, on each pin wheel: the image of 0 is the number of bars taken. */
    private static RotorBench caged() {
        RotorBench x = Benches.bare(32);
        x.path(2);
        for (int k = 0; k < 12; k++) {
            raise(x, k);
        }
        return x;
    }

    private static void raise(RotorBench x, int k) {
        x.pins(k, 1);
        x.pin(k, 0, true);
    }

    /** "BARS are 0 .. 26; each has two LUGS, at a pin wheel or at none." */
    private static void barsAtFirst() {
        RotorBench x = caged();
        CHECK.is("no lug is anywhere at first", x.image(0), 0);
        for (int bar = 0; bar < 27; bar++) {
            x.lugs(bar, bar % 12, NONE);
            CHECK.is("the one lug of " + bar, x.image(0), bar + 1);
        }
        for (int bar = 0; bar < 27; bar++) {
            x.lugs(bar, NONE, 11 - bar % 12);
            CHECK.is("the other lug of " + bar, x.image(0), 27);
        }
        for (int bar = 0; bar < 27; bar++) {
            x.lugs(bar, NONE, NONE);
            CHECK.is("no lug of " + bar, x.image(0), 26 - bar);
        }
    }

    /** "each has two LUGS": they stay where they are, whatever becomes of the pin wheel. */
    private static void barsKeepTheirLugs() {
        RotorBench x = caged();
        x.lugs(0, 3, NONE);
        x.lugs(26, NONE, 3);
        for (int length : new int[] {0, 1, 61}) {
            CHECK.is("two bars before length " + length, x.image(0), 2);
            x.pins(3, length);
            CHECK.is("its pins are down, or none", x.image(0), 0);
            raise(x, 3);
        }
        CHECK.is("two bars in the end", x.image(0), 2);
        // Lugs may be put where no pin wheel is yet.
        x.pins(7, 0);
        x.lugs(13, 7, 7);
        CHECK.is("none has no active pin", x.image(0), 2);
        raise(x, 7);
        CHECK.is("three bars", x.image(0), 3);
    }

    /** "by the RULE (0 at first)", "A SIGN c TAKES A PATH (0 at first)": the steps and the way show it, too. */
    private static void ruleAndPathAtFirst() {
        RotorBench x = new RotorBench();
        for (int s = 0; s < 3; s++) {
            x.fill(s, s);
            x.wire(s, s, s + 1);
        }
        x.notch(1, 0, true);
        x.notch(2, 0, true);
        CHECK.is("through the slots, with no pin or bar in it", x.image(0), 3);
        x.key(0);
        // Rules 1 and 3 would step all three of them, 2 and 4 the last one alone.
        CHECK.is("slot 0 steps", x.at(0, 0), 1);
        CHECK.is("slot 1 does not", x.at(0, 1), 0);
        CHECK.is("slot 2 does not", x.at(0, 2), 0);
    }

    /** "a filled slot is AT ITS NOTCH if its wheel has a notch at its position": where that is, all round. */
    private static void notchOfItsWheelAtItsPosition() {
        for (int notch = 0; notch < 26; notch += 5) {
            RotorBench x = new RotorBench();
            x.fill(0, 3);
            x.fill(4, 1);
            x.notch(3, notch, true);
            for (int i = 0; i < 26; i++) {
                CHECK.is("slot 0", x.at(0, 0), i);
                CHECK.is("notch " + notch + ", slot 4 after " + i, x.at(0, 4), i > notch ? 1 : 0);
                x.key(0);
            }
            CHECK.is("notch " + notch + ", slot 4 after the round", x.at(0, 4), 1);
        }
    }

    /** "if its wheel has a notch at its position": the ring turns the wiring alone. */
    private static void notchWhateverTheRing() {
        for (int ring : new int[] {0, 1, 7, 25}) {
            RotorBench x = new RotorBench();
            x.fill(0, 0);
            x.fill(1, 1);
            x.notch(0, 7, true);
            x.ring(0, ring);
            x.ring(1, 25 - ring);
            x.set(0, 0, 6);
            x.key(0);
            CHECK.is("ring " + ring + ", before the notch", x.at(0, 1), 0);
            x.key(0);
            CHECK.is("ring " + ring + ", at the notch", x.at(0, 1), 1);
        }
    }

    /** "if its wheel has a notch at its position": not if another wheel, or another position, has one. */
    private static void notchOfOthers() {
        RotorBench x = new RotorBench();
        x.fill(0, 0);
        x.fill(1, 1);
        for (int w = 1; w < 8; w++) {
            x.notch(w, 0, true);
        }
        for (int p = 1; p < 26; p++) {
            x.notch(0, p, true);
        }
        x.key(0);
        CHECK.is("wheel 0 has none at 0", x.at(0, 1), 0);
        x.set(0, 0, 0);
        x.fill(0, 7);
        x.key(0);
        CHECK.is("wheel 7 has one at 0", x.at(0, 1), 1);
    }

    /** "A KEY: first the machine steps, then its sign takes the path." */
    private static void keyStepsThenSends() {
        RotorBench x = new RotorBench();
        x.path(2);
        x.lugs(0, 0, NONE);
        x.pins(0, 3);
        x.pin(0, 1, true);
        CHECK.is("the pin is not active yet", x.image(0), 0);
        CHECK.is("the step makes it active", x.key(0), 1);
        CHECK.is("as it is then", x.image(0), 1);
        CHECK.is("the next step passes it", x.key(0), 0);
    }

    /**
     * "MESSAGES are logged with the positions and places at their beginning, the signs that were keyed, and what came of
     * them: at most 20, of 60 signs each."
     */
    private static void messagesAreLoggedWith() {
        RotorBench x = Benches.busy(26);
        x.key(0);
        int[] came = new int[60];
        int message = x.open();
        for (int i = 0; i < 60; i++) {
            came[i] = x.key(i * 7 % 26);
        }
        x.close();
        for (int i = 0; i < 60; i++) {
            CHECK.is("keyed " + i, x.logged(message, i, 0), i * 7 % 26);
            CHECK.is("came " + i, x.logged(message, i, 1), came[i]);
        }
        for (int s = 0; s < 6; s++) {
            x.set(0, s, 11);
        }
        for (int k : new int[] {0, 2, 8, 11}) {
            x.set(1, k, 1);
        }
        CHECK.is("from the positions and places at its beginning", x.replay(message), NONE);
        for (int i = message + 1; i < 20; i++) {
            CHECK.is("message " + i, x.open(), i);
            x.close();
        }
        CHECK.refuses("a 21st", IllegalStateException.class, x::open);
    }

    /** "EXCEPTIONS: NoSuchElementException: there is no such contact, wheel, slot, pin wheel, pin, bar, rule, path or message." */
    private static void noSuch() {
        RotorBench x = Benches.busy(26);
        for (int sign : new int[] {-1, 1}) {
            CHECK.refuses("contact", NSE, () -> x.key(sign < 0 ? -1 : 26));
            CHECK.refuses("wheel", NSE, () -> x.ring(sign < 0 ? -1 : 8, 0));
            CHECK.refuses("slot", NSE, () -> x.fill(sign < 0 ? -1 : 6, 1));
            CHECK.refuses("pin wheel", NSE, () -> x.pins(sign < 0 ? -1 : 12, 1));
            CHECK.refuses("pin", NSE, () -> x.pin(0, sign < 0 ? -1 : 3, true));
            CHECK.refuses("bar", NSE, () -> x.lugs(sign < 0 ? -1 : 27, 0, 0));
            CHECK.refuses("rule", NSE, () -> x.rule(sign < 0 ? -1 : 5));
            CHECK.refuses("path", NSE, () -> x.path(sign < 0 ? -1 : 3));
            CHECK.refuses("message", NSE, () -> x.replay(sign < 0 ? -1 : 2));
        }
    }
}
