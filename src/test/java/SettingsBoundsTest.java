import java.util.Map;
import java.util.NoSuchElementException;

/** The edges that promises 1 to 15 name; the sentence stands above its test. */
public final class SettingsBoundsTest {
    private static final Class<NoSuchElementException> NSE = NoSuchElementException.class;
    private static final Class<IllegalArgumentException> IAE = IllegalArgumentException.class;
    private static final Class<IllegalStateException> ISE = IllegalStateException.class;
    private static final int NONE = RotorBench.NONE;
    private static final Map<Integer, Benches.Maker> BUSY = Bounds.forEach(Benches::busy);
    private static final Map<Integer, Benches.Maker> OPEN = Bounds.forEach(Benches::open);
    private static final Check CHECK = new Check("SettingsBoundsTest");
    private static final Bounds BOUNDS = new Bounds(CHECK);

    public static void main(String[] args) {
        newObject();
        contactsAreThree();
        contactsAnswerWhatWas();
        contactsClearAll();
        contactsWhileOpen();
        for (int m : Benches.CONTACTS) {
            wireRanges(m);
            wireToWhereItLeads(m);
            wireEdgeToEdge(m);
            ringRanges(m);
            ringAnswersWhatWas(m);
            notchRanges(m);
            notchWhetherThatWasNotSo(m);
            notchEverywhere(m);
            fillRanges(m);
            plugRanges(m);
            plugTwoAreOne(m);
            plugInPair(m);
            plugAll(m);
            unplugRanges(m);
            unplugInNoPair(m);
            reflectsWhileOpen(m);
            pinsRanges(m);
            pinRanges(m);
            lugsRanges(m);
            ruleRange(m);
            pathRange(m);
            setRanges(m);
            setOfNone(m);
        }
        fillInAnother();
        fillWithTheSame();
        fillAll();
        reflectsWhetherThatWasNotSo();
        pinsAnswerTheLength();
        pinsAllDown();
        pinsPlaceIsZero();
        pinsNothingCanBeUndone();
        pinWhetherThatWasNotSo();
        pinOfNone();
        lugsAtNone();
        lugsBothAtOne();
        lugsOnEveryBar();
        ruleAnswersWhatWas();
        pathAnswersWhatWas();
        setAnswersWhatWas();
        setNothingCanBeUndone();
        CHECK.end();
    }

    private static void ranges(String what, int m, int lowest, int highest, Bounds.Given given) {
        BOUNDS.setting(what + " of " + m, BUSY.get(m), OPEN.get(m), lowest, highest, NSE, given);
    }

    /** "26 contacts, everything as at first." */
    private static void newObject() {
        isAsAtFirst("new", () -> new RotorBench(), 26);
    }

    private static void isAsAtFirst(String when, Benches.Maker maker, int m) {
        CHECK.is(when + ": contacts", maker.make().count(0), m);
        // A bench that was never touched but for contacts() is what "as at first" means.
        for (int which = 0; which < Probe.PROBES; which++) {
            String got = String.join(", ", Probe.look(maker.make(), which));
            String due = String.join(", ", Probe.look(m == 26 ? new RotorBench() : Benches.bare(m), which));
            CHECK.is(when + ": look " + which + " is as at first", got.equals(due), true);
        }
        RotorBench x = maker.make();
        for (int what = 1; what < 8; what++) {
            CHECK.is(when + ": count " + what, x.count(what), 0);
        }
        for (int s = 0; s < 6; s++) {
            CHECK.is(when + ": position " + s, x.at(0, s), 0);
            CHECK.is(when + ": slot " + s, x.fill(s, NONE), NONE);
        }
        for (int k = 0; k < 12; k++) {
            CHECK.is(when + ": place " + k, x.at(1, k), 0);
            CHECK.is(when + ": length " + k, x.pins(k, 0), 0);
        }
        CHECK.is(when + ": rule", x.rule(0), 0);
        CHECK.is(when + ": path", x.path(0), 0);
        CHECK.is(when + ": reflects", x.reflects(false), false);
        for (int w = 0; w < 8; w++) {
            CHECK.is(when + ": ring of " + w, x.ring(w, 0), 0);
            x.fill(0, w);
            CHECK.is(when + ": wiring of " + w, x.fixed(), m);
            for (int p = 0; p < m; p++) {
                CHECK.is(when + ": notch " + p + " of " + w, x.notch(w, p, false), false);
            }
        }
    }

    /** "IllegalArgumentException: m is not 10, 26 or 32." */
    private static void contactsAreThree() {
        for (int now : Benches.CONTACTS) {
            for (int m = -1; m <= 34; m++) {
                int wrong = m;
                if (m == 10 || m == 26 || m == 32) {
                    BOUNDS.takes("contacts " + m, BUSY.get(now), x -> x.contacts(wrong));
                } else if (now == 26) {
                    BOUNDS.refuses("contacts " + m, BUSY.get(now), IAE, x -> x.contacts(wrong));
                }
            }
            for (int wrong : new int[] {-10, -26, -32, 42, 64, 266, Integer.MIN_VALUE, Integer.MAX_VALUE}) {
                BOUNDS.refuses("contacts " + wrong, BUSY.get(now), IAE, x -> x.contacts(wrong));
            }
        }
    }

    /** "how many there were" */
    private static void contactsAnswerWhatWas() {
        RotorBench x = new RotorBench();
        int was = 26;
        for (int m : new int[] {26, 10, 10, 32, 32, 10, 26, 32, 26}) {
            CHECK.is("contacts(" + m + ") after " + was, x.contacts(m), was);
            CHECK.is("contacts are " + m, x.count(0), m);
            was = m;
        }
    }

    /** "The contacts are m from now on, all else is as at first (messages go, too)" */
    private static void contactsClearAll() {
        for (int was : Benches.CONTACTS) {
            for (int m : Benches.CONTACTS) {
                isAsAtFirst(was + " contacts, then " + m, () -> {
                    RotorBench x = Benches.busy(was);
                    x.path(2);
                    x.contacts(m);
                    return x;
                }, m);
            }
        }
        RotorBench full = Benches.messages(26, 20);
        full.contacts(26);
        CHECK.refuses("messages go", NSE, () -> full.logged(0, 0, 0));
        CHECK.refuses("messages go from replay", NSE, () -> full.replay(0));
        CHECK.is("after 20 messages there is room again", full.open(), 0);
    }

    /** "IllegalStateException: a message is open." */
    private static void contactsWhileOpen() {
        for (int now : Benches.CONTACTS) {
            for (int m : Benches.CONTACTS) {
                BOUNDS.refuses("open: contacts " + m, OPEN.get(now), ISE, x -> x.contacts(m));
            }
            for (int wrong : new int[] {0, 9, 11, 25, 27, 31, 33}) {
                BOUNDS.refuses("open: contacts " + wrong, OPEN.get(now), IAE, x -> x.contacts(wrong));
            }
        }
    }

    /** "NoSuchElementException; IllegalStateException: a message is open." */
    private static void wireRanges(int m) {
        ranges("wire wheel", m, 0, 7, (x, v) -> x.wire(v, 1, 2));
        ranges("wire a", m, 0, m - 1, (x, v) -> x.wire(7, v, 2));
        ranges("wire b", m, 0, m - 1, (x, v) -> x.wire(0, 1, v));
    }

    /** "A wheel's wiring leads from a to b; the contact that led to b leads to where a did: that one.": it may be a itself. */
    private static void wireToWhereItLeads(int m) {
        RotorBench x = Benches.bare(m);
        x.fill(0, 7);
        for (int c = 0; c < m; c++) {
            CHECK.is("wire " + c + " to itself", x.wire(7, c, c), c);
        }
        CHECK.is("nothing was wired", x.fixed(), m);
        CHECK.is("wire 0 to the last", x.wire(7, 0, m - 1), m - 1);
        CHECK.is("wire 0 to the last again", x.wire(7, 0, m - 1), 0);
        CHECK.is("0 leads to the last", x.image(0), m - 1);
        CHECK.is("the last leads to 0", x.image(m - 1), 0);
        CHECK.is("no other was wired", x.fixed(), m - 2);
    }

    /** "each has a WIRING, a permutation of the contacts": it stays one, also if all is wired anew. */
    private static void wireEdgeToEdge(int m) {
        RotorBench x = Benches.bare(m);
        x.fill(0, 0);
        for (int c = 0; c < m; c++) {
            x.wire(0, c, m - 1 - c);
        }
        for (int c = 0; c < m; c++) {
            CHECK.is("turned round, " + c, x.image(c), m - 1 - c);
        }
        for (int c = 0; c < m - 1; c++) {
            x.wire(0, c, c + 1);
        }
        for (int c = 0; c < m; c++) {
            CHECK.is("a ring of all, " + c, x.image(c), (c + 1) % m);
        }
        CHECK.is("the last leads to 0", x.wire(0, m - 1, 0), m - 1);
    }

    /** "NoSuchElementException: wheel, or r is no contact. IllegalStateException: a message is open." */
    private static void ringRanges(int m) {
        ranges("ring wheel", m, 0, 7, (x, v) -> x.ring(v, 1));
        ranges("ring", m, 0, m - 1, (x, v) -> x.ring(6, v));
    }

    /** "A wheel's ring: what it was." */
    private static void ringAnswersWhatWas(int m) {
        RotorBench x = Benches.bare(m);
        for (int w = 0; w < 8; w++) {
            CHECK.is("the ring at first", x.ring(w, m - 1), 0);
        }
        for (int w = 0; w < 8; w++) {
            CHECK.is("the greatest ring", x.ring(w, m - 1), m - 1);
            CHECK.is("the greatest ring again", x.ring(w, 0), m - 1);
            CHECK.is("the least ring", x.ring(w, 0), 0);
        }
    }

    /** "NoSuchElementException; IllegalStateException: a message is open." */
    private static void notchRanges(int m) {
        for (boolean on : new boolean[] {true, false}) {
            ranges("notch wheel", m, 0, 7, (x, v) -> x.notch(v, 1, on));
            ranges("notch", m, 0, m - 1, (x, v) -> x.notch(3, v, on));
        }
    }

    /** "A wheel has a notch at a position, or not: whether that was not so." */
    private static void notchWhetherThatWasNotSo(int m) {
        RotorBench x = Benches.bare(m);
        for (int w : new int[] {0, 7}) {
            for (int p : new int[] {0, m - 1}) {
                CHECK.is("there was none", x.notch(w, p, false), false);
                CHECK.is("there is one now", x.notch(w, p, true), true);
                CHECK.is("there was one", x.notch(w, p, true), false);
                CHECK.is("there is none now", x.notch(w, p, false), true);
                CHECK.is("there was none again", x.notch(w, p, false), false);
            }
        }
    }

    /** "NOTCHES at some positions 0 .. m - 1": at all of them, too. */
    private static void notchEverywhere(int m) {
        RotorBench x = Benches.bare(m);
        x.fill(0, 0);
        x.fill(1, 1);
        for (int p = 0; p < m; p++) {
            CHECK.is("a notch at " + p, x.notch(0, p, true), true);
        }
        for (int i = 1; i <= m; i++) {
            x.key(0);
            CHECK.is("the second steps each time, " + i, x.at(0, 1), i % m);
        }
    }

    /** "NoSuchElementException; IllegalStateException: a message is open, or the wheel is in another slot." */
    private static void fillRanges(int m) {
        ranges("fill slot", m, 0, 5, (x, v) -> x.fill(v, 1));
        ranges("fill slot with none", m, 0, 5, (x, v) -> x.fill(v, NONE));
        // Wheel 7 is in slot 5, so that both ends of the range can be put there.
        ranges("fill with", m, NONE, 7, (x, v) -> x.fill(5, v));
        BOUNDS.takes("fill with wheel 1", BUSY.get(m), x -> x.fill(2, 1));
        BOUNDS.takes("fill with wheel 0 in its own slot", BUSY.get(m), x -> x.fill(3, 0));
        BOUNDS.refuses("fill with wheel 0 in another", BUSY.get(m), ISE, x -> x.fill(2, 0));
        BOUNDS.refuses("fill with wheel 7 in another", BUSY.get(m), ISE, x -> x.fill(0, 7));
        BOUNDS.refuses("open: fill with wheel 7 in another", OPEN.get(m), ISE, x -> x.fill(0, 7));
        BOUNDS.refuses("fill no slot with a wheel in another", BUSY.get(m), NSE, x -> x.fill(6, 7));
        BOUNDS.refuses("fill slot NONE with a wheel in another", BUSY.get(m), NSE, x -> x.fill(NONE, 7));
    }

    /** "or the wheel is in another slot": each wheel, each pair of slots. */
    private static void fillInAnother() {
        for (int from = 0; from < 6; from++) {
            RotorBench x = new RotorBench();
            x.fill(from, from + 2);
            for (int to = 0; to < 6; to++) {
                int wheel = from + 2;
                int slot = to;
                if (from == to) {
                    CHECK.is("wheel " + wheel + " in its slot", x.fill(slot, wheel), wheel);
                } else {
                    CHECK.refuses("wheel " + wheel + " in " + from + " and " + to, ISE, () -> x.fill(slot, wheel));
                }
            }
            CHECK.is("one is filled", x.count(1), 1);
            CHECK.is("it goes", x.fill(from, NONE), from + 2);
            CHECK.is("then it can be in another", x.fill((from + 1) % 6, from + 2), NONE);
        }
    }

    /** "A slot is filled by a wheel (NONE: empty): what was in it (NONE: nothing)." */
    private static void fillWithTheSame() {
        RotorBench x = new RotorBench();
        CHECK.is("none in an empty slot", x.fill(0, NONE), NONE);
        CHECK.is("a wheel in an empty slot", x.fill(0, 0), NONE);
        CHECK.is("the same wheel again", x.fill(0, 0), 0);
        CHECK.is("another wheel", x.fill(0, 7), 0);
        CHECK.is("the first is free", x.fill(5, 0), NONE);
        CHECK.is("none", x.fill(0, NONE), 7);
        CHECK.is("none again", x.fill(0, NONE), NONE);
        CHECK.is("one is filled", x.count(1), 1);
    }

    /** "SLOTS are 0 .. 5": all empty, all filled, and two wheels left. */
    private static void fillAll() {
        RotorBench x = new RotorBench();
        for (int s = 0; s < 6; s++) {
            CHECK.is("so many are filled", x.count(1), s);
            CHECK.is("fill " + s, x.fill(s, 5 - s), NONE);
        }
        CHECK.is("all are filled", x.count(1), 6);
        for (int s = 0; s < 6; s++) {
            int slot = s;
            CHECK.refuses("no other wheel of the six", ISE, () -> x.fill(slot, (5 - slot + 1) % 6));
        }
        CHECK.is("wheel 6 is left", x.fill(0, 6), 5);
        CHECK.is("wheel 7 is left", x.fill(5, 7), 0);
        for (int s = 0; s < 6; s++) {
            x.fill(s, NONE);
            CHECK.is("so many are left", x.count(1), 5 - s);
        }
    }

    /** "NoSuchElementException: part or contact." */
    private static void plugRanges(int m) {
        ranges("plug part", m, 0, 1, (x, v) -> x.plug(v, 6, 7));
        // Contacts 0 and 9 are in a pair of busy benches, so both ends are tried where nothing is plugged.
        for (int part = 0; part < 2; part++) {
            int one = part;
            Benches.Maker bare = () -> Benches.bare(m);
            BOUNDS.range("plug a", bare, 0, m - 1, NSE, (x, v) -> x.plug(one, v, 1));
            BOUNDS.range("plug b", bare, 0, m - 1, NSE, (x, v) -> x.plug(one, 1, v));
            BOUNDS.outside("open: plug a", OPEN.get(m), 0, m - 1, NSE, (x, v) -> x.plug(one, v, 6));
            BOUNDS.outside("open: plug b", OPEN.get(m), 0, m - 1, NSE, (x, v) -> x.plug(one, 6, v));
            BOUNDS.outside("plug with one in a pair", BUSY.get(m), 0, m - 1, NSE, (x, v) -> x.plug(one, 1 - one, v));
        }
        BOUNDS.refuses("open: plug the first with the last", OPEN.get(m), ISE, x -> x.plug(1, 0, m - 1));
    }

    /** "IllegalArgumentException: they are one." */
    private static void plugTwoAreOne(int m) {
        for (int part = 0; part < 2; part++) {
            int one = part;
            for (int contact : new int[] {0, 1, m - 1}) {
                BOUNDS.refuses("plug " + contact + " with itself", BUSY.get(m), IAE, x -> x.plug(one, contact, contact));
                BOUNDS.refuses("open: plug " + contact + " with itself", OPEN.get(m), IAE, x -> x.plug(one, contact, contact));
            }
            // Contact 1 is in a pair of the reflector, 0 in one of the plugboard.
            BOUNDS.refuses("plug a paired one with itself", BUSY.get(m), IAE, x -> x.plug(one, one, one));
            BOUNDS.outside("plug what is no contact with itself", BUSY.get(m), 0, m - 1, NSE, (x, v) -> x.plug(one, v, v));
            BOUNDS.refuses("next to each other", OPEN.get(m), ISE, x -> x.plug(one, 6, 7));
        }
        BOUNDS.outside("plug one with itself in no part", BUSY.get(m), 0, 1, NSE, (x, v) -> x.plug(v, 6, 6));
    }

    /** "IllegalStateException: a message is open, or one of them is in a pair there." */
    private static void plugInPair(int m) {
        BOUNDS.refuses("the first is in a pair", BUSY.get(m), ISE, x -> x.plug(0, 0, 1));
        BOUNDS.refuses("the second is in a pair", BUSY.get(m), ISE, x -> x.plug(0, 1, 9));
        BOUNDS.refuses("both are in one pair", BUSY.get(m), ISE, x -> x.plug(0, 0, 9));
        BOUNDS.refuses("both are in one pair, turned round", BUSY.get(m), ISE, x -> x.plug(0, 9, 0));
        BOUNDS.refuses("both are in pairs", BUSY.get(m), ISE, x -> x.plug(0, 9, 2));
        BOUNDS.refuses("the first is in a pair of the reflector", BUSY.get(m), ISE, x -> x.plug(1, 8, 0));
        BOUNDS.refuses("the second is in a pair of the reflector", BUSY.get(m), ISE, x -> x.plug(1, 0, 1));
        BOUNDS.takes("in a pair of the reflector, not of the plugboard", BUSY.get(m), x -> x.plug(0, 1, 8));
        BOUNDS.takes("in a pair of the plugboard, not of the reflector", BUSY.get(m), x -> x.plug(1, 0, 9));
        BOUNDS.refuses("open and in a pair", OPEN.get(m), ISE, x -> x.plug(0, 0, 9));
    }

    /**
     * "Two contacts become a pair of the plugboard (part 0) or of the reflector (1).", "exchange the contacts of their
     * pairs; others stay": none in a pair, all in pairs, all again.
     */
    private static void plugAll(int m) {
        for (int part = 0; part < 2; part++) {
            RotorBench x = Benches.bare(m);
            int one = part;
            x.reflects(true);
            for (int c = 0; c < m / 2; c++) {
                CHECK.is("so many pairs", x.count(2 + part), c);
                x.plug(part, c, m - 1 - c);
            }
            CHECK.is("all are in pairs", x.count(2 + part), m / 2);
            for (int c = 0; c < m; c++) {
                int contact = c;
                CHECK.refuses("no contact is left", ISE, () -> x.plug(one, contact, (contact + 1) % m));
                CHECK.is("image of " + c, x.image(c), part == 0 ? c : m - 1 - c);
            }
            CHECK.is("the last pair goes", x.unplug(part, m - 1), 0);
            CHECK.is("one pair less", x.count(2 + part), m / 2 - 1);
            x.plug(part, m - 1, 0);
            CHECK.is("and comes again", x.count(2 + part), m / 2);
            CHECK.is("the other part has none", x.count(3 - part), 0);
        }
    }

    /** "NoSuchElementException; IllegalStateException: a message is open." */
    private static void unplugRanges(int m) {
        ranges("unplug part", m, 0, 1, (x, v) -> x.unplug(v, 1));
        ranges("unplug", m, 0, m - 1, (x, v) -> x.unplug(0, v));
        ranges("unplug the reflector", m, 0, m - 1, (x, v) -> x.unplug(1, v));
    }

    /** "The pair of a contact goes: the other one (NONE: it was in none)." */
    private static void unplugInNoPair(int m) {
        RotorBench x = Benches.bare(m);
        CHECK.is("in no pair", x.unplug(0, 0), NONE);
        x.plug(0, 0, m - 1);
        x.plug(1, 0, 1);
        CHECK.is("the other is the last", x.unplug(0, 0), m - 1);
        CHECK.is("it was in none then", x.unplug(0, 0), NONE);
        CHECK.is("nor was the other", x.unplug(0, m - 1), NONE);
        CHECK.is("no pair is left", x.count(2), 0);
        x.plug(0, 0, m - 1);
        CHECK.is("the other is the first", x.unplug(0, m - 1), 0);
        CHECK.is("no pair is left again", x.count(2), 0);
        CHECK.is("the reflector's stays", x.unplug(1, 1), 0);
        CHECK.is("and goes", x.count(3), 0);
    }

    /** "IllegalStateException: a message is open." */
    private static void reflectsWhileOpen(int m) {
        BOUNDS.refuses("open: reflects", OPEN.get(m), ISE, x -> x.reflects(true));
        BOUNDS.refuses("open: does not reflect", OPEN.get(m), ISE, x -> x.reflects(false));
    }

    /** "The machine reflects, or not: whether that was not so." */
    private static void reflectsWhetherThatWasNotSo() {
        RotorBench x = new RotorBench();
        CHECK.is("it does not at first", x.reflects(false), false);
        CHECK.is("it does now", x.reflects(true), true);
        CHECK.is("it did", x.reflects(true), false);
        CHECK.is("it does not now", x.reflects(false), true);
        CHECK.is("it did not", x.reflects(false), false);
    }

    /** "NoSuchElementException; IllegalArgumentException: length is not 0 .. 61. IllegalStateException: a message is open." */
    private static void pinsRanges(int m) {
        ranges("pins of", m, 0, 11, (x, v) -> x.pins(v, 5));
        BOUNDS.setting("pins", BUSY.get(m), OPEN.get(m), 0, 61, IAE, (x, v) -> x.pins(0, v));
        BOUNDS.setting("pins of the last", BUSY.get(m), OPEN.get(m), 0, 61, IAE, (x, v) -> x.pins(11, v));
        BOUNDS.outside("62 pins of", BUSY.get(m), 0, 11, NSE, (x, v) -> x.pins(v, 62));
        BOUNDS.outside("-1 pins of", OPEN.get(m), 0, 11, NSE, (x, v) -> x.pins(v, -1));
    }

    /** "the length it had" */
    private static void pinsAnswerTheLength() {
        RotorBench x = new RotorBench();
        for (int k : new int[] {0, 11}) {
            CHECK.is("none at first", x.pins(k, 0), 0);
            CHECK.is("none still", x.pins(k, 61), 0);
            CHECK.is("61", x.pins(k, 61), 61);
            CHECK.is("61 again", x.pins(k, 1), 61);
            CHECK.is("one", x.pins(k, 0), 1);
            CHECK.is("none again", x.pins(k, 60), 0);
        }
        CHECK.is("two are some", x.count(4), 2);
    }

    /** "A pin wheel has a length, all its pins down" */
    private static void pinsAllDown() {
        RotorBench x = new RotorBench();
        for (int length : new int[] {61, 30, 61, 1, 61}) {
            x.pins(11, length);
            for (int k = 0; k < length; k++) {
                CHECK.is("pin " + k + " of " + length + " was down", x.pin(11, k, true), true);
            }
        }
        RotorBench y = new RotorBench();
        y.pins(0, 61);
        y.pin(0, 60, true);
        y.pins(0, 60);
        y.pins(0, 61);
        CHECK.is("a pin that was away is down", y.pin(0, 60, false), false);
        y.pin(0, 0, true);
        y.pins(0, 0);
        y.pins(0, 1);
        CHECK.is("a pin of one that was none is down", y.pin(0, 0, false), false);
    }

    /** "its place is 0" */
    private static void pinsPlaceIsZero() {
        for (int length : new int[] {0, 1, 60, 61}) {
            RotorBench x = new RotorBench();
            x.pins(11, 61);
            x.pins(0, 61);
            x.set(1, 11, 60);
            x.set(1, 0, 60);
            x.pins(11, length);
            CHECK.is("the place after " + length, x.at(1, 11), 0);
            CHECK.is("another's place", x.at(1, 0), 60);
        }
    }

    /** "(nothing can be undone then)" */
    private static void pinsNothingCanBeUndone() {
        for (int length : new int[] {0, 1, 61}) {
            RotorBench x = new RotorBench();
            for (int i = 0; i < 45; i++) {
                x.key(0);
            }
            x.pins(4, length);
            CHECK.is("steps after pins " + length, x.count(7), 0);
            CHECK.refuses("undo after pins " + length, ISE, x::undo);
            x.key(0);
            CHECK.is("one step then", x.undo(), 0);
        }
    }

    /** "NoSuchElementException; IllegalStateException: a message is open." */
    private static void pinRanges(int m) {
        for (boolean up : new boolean[] {true, false}) {
            // Of the pin wheels, 0 and 11 have three pins; 8 has 61, 1 has one.
            ranges("pin of", m, 0, 11, (x, v) -> x.pin(v, 2, up));
            ranges("pin of 61", m, 0, 60, (x, v) -> x.pin(8, v, up));
            ranges("pin of one", m, 0, 0, (x, v) -> x.pin(1, v, up));
            ranges("pin of three", m, 0, 2, (x, v) -> x.pin(11, v, up));
        }
    }

    /** "A pin is up, or down: whether that was not so." */
    private static void pinWhetherThatWasNotSo() {
        RotorBench x = new RotorBench();
        for (int wheel : new int[] {0, 11}) {
            x.pins(wheel, 61);
            for (int k : new int[] {0, 60}) {
                CHECK.is("it was down", x.pin(wheel, k, false), false);
                CHECK.is("it is up now", x.pin(wheel, k, true), true);
                CHECK.is("it was up", x.pin(wheel, k, true), false);
                CHECK.is("it is down now", x.pin(wheel, k, false), true);
                CHECK.is("it was down again", x.pin(wheel, k, false), false);
            }
        }
    }

    /** "there is no such [..] pin": a pin wheel that is none has no pins. */
    private static void pinOfNone() {
        for (int m : Benches.CONTACTS) {
            BOUNDS.refuses("pin 0 of none", BUSY.get(m), NSE, x -> x.pin(4, 0, true));
            BOUNDS.refuses("pin -1 of none", BUSY.get(m), NSE, x -> x.pin(9, -1, false));
            BOUNDS.refuses("open: pin 0 of none", OPEN.get(m), NSE, x -> x.pin(4, 0, true));
        }
        RotorBench x = new RotorBench();
        x.pins(11, 61);
        x.pins(11, 60);
        CHECK.refuses("a pin that is away", NSE, () -> x.pin(11, 60, true));
        CHECK.is("the last that is there", x.pin(11, 59, true), true);
    }

    /** "NoSuchElementException; IllegalStateException: a message is open." */
    private static void lugsRanges(int m) {
        ranges("lugs of bar", m, 0, 26, (x, v) -> x.lugs(v, 0, 1));
        ranges("one lug", m, NONE, 11, (x, v) -> x.lugs(0, v, 1));
        ranges("other lug", m, NONE, 11, (x, v) -> x.lugs(26, 1, v));
        ranges("both lugs", m, NONE, 11, (x, v) -> x.lugs(13, v, v));
    }

    /** A bench on path 2 whose pin wheels all have one pin, that is up. */
    private static RotorBench caged(int m) {
        RotorBench x = Benches.bare(m);
        x.path(2);
        for (int k = 0; k < 12; k++) {
            x.pins(k, 1);
            x.pin(k, 0, true);
        }
        return x;
    }

    /** "A bar's lugs are at these pin wheels (NONE: none; both may be at one)." */
    private static void lugsAtNone() {
        RotorBench x = caged(32);
        CHECK.is("at none at first", x.image(0), 0);
        x.lugs(0, NONE, NONE);
        CHECK.is("both at none", x.image(0), 0);
        x.lugs(0, 0, NONE);
        CHECK.is("one at the first", x.image(0), 1);
        x.lugs(0, NONE, 11);
        CHECK.is("the other at the last", x.image(0), 1);
        x.lugs(0, NONE, NONE);
        CHECK.is("both at none again", x.image(0), 0);
    }

    /** "both may be at one" */
    private static void lugsBothAtOne() {
        for (int k = 0; k < 12; k++) {
            RotorBench x = caged(32);
            x.lugs(26, k, k);
            CHECK.is("both at " + k + " are one bar", x.image(0), 1);
            x.pin(k, 0, false);
            CHECK.is("both at " + k + ", which is down", x.image(0), 0);
        }
    }

    /** "BARS are 0 .. 26; each has two LUGS" */
    private static void lugsOnEveryBar() {
        RotorBench x = caged(32);
        for (int bar = 0; bar < 27; bar++) {
            x.lugs(bar, bar % 12, 11 - bar % 12);
            CHECK.is("bars up to " + bar, x.image(0), bar + 1);
        }
        for (int bar = 26; bar >= 0; bar--) {
            x.lugs(bar, NONE, NONE);
            CHECK.is("bars before " + bar, x.image(0), bar);
        }
    }

    /** "NoSuchElementException; IllegalStateException: a message is open." */
    private static void ruleRange(int m) {
        ranges("rule", m, 0, 4, (x, v) -> x.rule(v));
        BOUNDS.refuses("open: the rule that it is", OPEN.get(m), ISE, x -> x.rule(1));
    }

    /** "The rule by which it steps: what it was." */
    private static void ruleAnswersWhatWas() {
        RotorBench x = new RotorBench();
        int was = 0;
        for (int rule : new int[] {0, 4, 4, 3, 2, 1, 0}) {
            CHECK.is("the rule before " + rule, x.rule(rule), was);
            was = rule;
        }
    }

    /** "NoSuchElementException; IllegalStateException: a message is open." */
    private static void pathRange(int m) {
        ranges("path", m, 0, 2, (x, v) -> x.path(v));
    }

    /** "The path that signs take: what it was." */
    private static void pathAnswersWhatWas() {
        RotorBench x = new RotorBench();
        int was = 0;
        for (int path : new int[] {0, 2, 2, 1, 0}) {
            CHECK.is("the path before " + path, x.path(path), was);
            was = path;
        }
    }

    /** "NoSuchElementException: kind, slot or pin wheel, or p is none there. IllegalStateException: a message is open." */
    private static void setRanges(int m) {
        ranges("set kind", m, 0, 1, (x, v) -> x.set(v, 0, 0));
        ranges("set slot", m, 0, 5, (x, v) -> x.set(0, v, 3));
        ranges("set position", m, 0, m - 1, (x, v) -> x.set(0, 0, v));
        ranges("set position of an empty slot", m, 0, m - 1, (x, v) -> x.set(0, 4, v));
        ranges("set pin wheel", m, 0, 11, (x, v) -> x.set(1, v, 0));
        ranges("set place of 61", m, 0, 60, (x, v) -> x.set(1, 8, v));
        ranges("set place of one", m, 0, 0, (x, v) -> x.set(1, 1, v));
        ranges("set place of three", m, 0, 2, (x, v) -> x.set(1, 11, v));
    }

    /** "or p is none there": a pin wheel that is none has no place that could be set. */
    private static void setOfNone(int m) {
        BOUNDS.refuses("set 0 of none", BUSY.get(m), NSE, x -> x.set(1, 4, 0));
        BOUNDS.refuses("set -1 of none", BUSY.get(m), NSE, x -> x.set(1, 9, NONE));
        BOUNDS.refuses("open: set 0 of none", OPEN.get(m), NSE, x -> x.set(1, 4, 0));
    }

    /** "A slot's position (kind 0), or a pin wheel's place (1): what it was." */
    private static void setAnswersWhatWas() {
        for (int m : Benches.CONTACTS) {
            RotorBench x = Benches.bare(m);
            for (int slot : new int[] {0, 5}) {
                CHECK.is("position at first", x.set(0, slot, m - 1), 0);
                CHECK.is("the last position", x.set(0, slot, m - 1), m - 1);
                CHECK.is("the last position again", x.set(0, slot, 0), m - 1);
                CHECK.is("the first position", x.set(0, slot, 1), 0);
            }
            for (int wheel : new int[] {0, 11}) {
                x.pins(wheel, 61);
                CHECK.is("place at first", x.set(1, wheel, 60), 0);
                CHECK.is("the last place", x.set(1, wheel, 60), 60);
                CHECK.is("the last place again", x.set(1, wheel, 0), 60);
                CHECK.is("the first place", x.set(1, wheel, 1), 0);
            }
            CHECK.is("slot 0 has its own", x.at(0, 0), 1);
            CHECK.is("slot 1 has its own", x.at(0, 1), 0);
        }
    }

    /** "Nothing can be undone then." */
    private static void setNothingCanBeUndone() {
        for (int kind = 0; kind < 2; kind++) {
            RotorBench x = new RotorBench();
            x.pins(0, 3);
            for (int i = 0; i < 45; i++) {
                x.key(0);
            }
            // The slot is empty and stands there already; the place is 45 round 3.
            CHECK.is("it was there already", x.set(kind, 0, 0), 0);
            CHECK.is("steps after set", x.count(7), 0);
            CHECK.refuses("undo after set", ISE, x::undo);
            x.key(0);
            CHECK.is("one step then", x.undo(), 0);
        }
    }
}
