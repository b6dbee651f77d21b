import java.util.Map;
import java.util.NoSuchElementException;

/** The edges that promises 23 to 27 name; the sentence stands above its test. */
public final class MessagesBoundsTest {
    private static final Class<NoSuchElementException> NSE = NoSuchElementException.class;
    private static final Class<IllegalArgumentException> IAE = IllegalArgumentException.class;
    private static final Class<IllegalStateException> ISE = IllegalStateException.class;
    private static final int NONE = RotorBench.NONE;
    private static final Map<Integer, Benches.Maker> BUSY = Bounds.forEach(Benches::busy);
    private static final Map<Integer, Benches.Maker> OPEN = Bounds.forEach(Benches::open);
    private static final Map<Integer, Benches.Maker> FULL = Bounds.forEach(m -> Benches.openWith(m, 60));
    private static final Map<Integer, Benches.Maker> TWENTY = Bounds.forEach(m -> Benches.messages(m, 20));
    private static final Check CHECK = new Check("MessagesBoundsTest");
    private static final Bounds BOUNDS = new Bounds(CHECK);

    public static void main(String[] args) {
        for (int m : Benches.CONTACTS) {
            openAnswersItsNumber(m);
            openRefused(m);
            closeAnswersItsSigns(m);
            closeRefused(m);
            loggedMessages(m);
            loggedSigns(m);
            loggedWhat(m);
            loggedOfFullMessage(m);
            replayMessages(m);
            replayOfOpen(m);
            replayOfNothing(m);
            replayFindsEachSign(m);
            replayFromLastPositions(m);
            replayLeavesItAsItWas(m);
            countRange(m);
        }
        replayRoundOnShorterPinWheels();
        replayOnLongerPinWheels();
        replayWithPinWheelsThatAreNoneNow();
        replayWithPinWheelsThatWereNone();
        replayWithSlotsThatAreEmptyNow();
        countContacts();
        countFilled();
        countPairs();
        countPinWheels();
        countMessages();
        countOpen();
        countSteps();
        CHECK.end();
    }

    /** "A message is open from now on: its number." */
    private static void openAnswersItsNumber(int m) {
        RotorBench x = Benches.bare(m);
        for (int i = 0; i < 20; i++) {
            CHECK.is("message " + i, x.open(), i);
            CHECK.is("it is open", x.count(6), 1);
            CHECK.is("it is counted", x.count(5), i + 1);
            x.close();
        }
    }

    /** "IllegalStateException: one is open, or there are 20." */
    private static void openRefused(int m) {
        BOUNDS.refuses("one is open", OPEN.get(m), ISE, RotorBench::open);
        BOUNDS.refuses("a full one is open", FULL.get(m), ISE, RotorBench::open);
        BOUNDS.refuses("there are 20", TWENTY.get(m), ISE, RotorBench::open);
        BOUNDS.takes("there are 19", () -> Benches.messages(m, 19), RotorBench::open);
        Benches.Maker twentieth = () -> {
            RotorBench x = Benches.messages(m, 19);
            x.open();
            return x;
        };
        BOUNDS.refuses("there are 20, and the last is open", twentieth, ISE, RotorBench::open);
        RotorBench x = Benches.messages(m, 20);
        x.contacts(m);
        CHECK.is("all have gone", x.open(), 0);
    }

    /** "The open message ends: how many signs it has." */
    private static void closeAnswersItsSigns(int m) {
        for (int signs : new int[] {0, 1, 59, 60}) {
            RotorBench x = Benches.openWith(m, signs);
            CHECK.is("signs", x.close(), signs);
            CHECK.is("none is open", x.count(6), 0);
        }
        RotorBench x = Benches.openWith(m, 60);
        x.close();
        x.open();
        CHECK.is("the next one begins anew", x.close(), 0);
    }

    /** "IllegalStateException: none is open." */
    private static void closeRefused(int m) {
        BOUNDS.refuses("none was open", () -> Benches.bare(m), ISE, RotorBench::close);
        BOUNDS.refuses("none is open any more", BUSY.get(m), ISE, RotorBench::close);
        BOUNDS.refuses("there are 20, none open", TWENTY.get(m), ISE, RotorBench::close);
    }

    /** "NoSuchElementException: message, or it has no such sign." */
    private static void loggedMessages(int m) {
        BOUNDS.range("logged message", TWENTY.get(m), 0, 19, NSE, (x, v) -> x.logged(v, 0, 0));
        BOUNDS.outside("logged message of two", BUSY.get(m), 0, 1, NSE, (x, v) -> x.logged(v, 0, 0));
        BOUNDS.takes("logged of the open one", OPEN.get(m), x -> x.logged(2, 0, 0));
        BOUNDS.outside("open: logged message", OPEN.get(m), 0, 2, NSE, (x, v) -> x.logged(v, 0, 0));
        BOUNDS.refuses("there is none", () -> Benches.bare(m), NSE, x -> x.logged(0, 0, 0));
    }

    /** "or it has no such sign" */
    private static void loggedSigns(int m) {
        for (int what = 0; what < 2; what++) {
            int one = what;
            BOUNDS.range("logged sign of four", BUSY.get(m), 0, 3, NSE, (x, v) -> x.logged(0, v, one));
            BOUNDS.refuses("logged sign of none", BUSY.get(m), NSE, x -> x.logged(1, 0, one));
            BOUNDS.range("open: logged sign of two", OPEN.get(m), 0, 1, NSE, (x, v) -> x.logged(2, v, one));
            BOUNDS.range("logged sign of sixty", FULL.get(m), 0, 59, NSE, (x, v) -> x.logged(0, v, one));
            BOUNDS.range("logged sign of one", TWENTY.get(m), 0, 0, NSE, (x, v) -> x.logged(19, v, one));
        }
        // A message that came after a longer one must not show what that one left behind.
        RotorBench x = Benches.openWith(m, 60);
        x.close();
        x.contacts(m);
        x.open();
        x.key(0);
        CHECK.is("its only sign", x.logged(0, 0, 0), 0);
        CHECK.refuses("no second", NSE, () -> x.logged(0, 1, 0));
    }

    /** "IllegalArgumentException: none of these." */
    private static void loggedWhat(int m) {
        BOUNDS.range("logged what", BUSY.get(m), 0, 1, IAE, (x, v) -> x.logged(0, 0, v));
        BOUNDS.range("open: logged what", OPEN.get(m), 0, 1, IAE, (x, v) -> x.logged(2, 1, v));
        BOUNDS.outside("what of no message", BUSY.get(m), 0, 1, NSE, (x, v) -> x.logged(2, 0, v));
        BOUNDS.outside("what of message NONE", BUSY.get(m), 0, 1, NSE, (x, v) -> x.logged(NONE, 0, v));
        BOUNDS.outside("what of no sign", BUSY.get(m), 0, 1, NSE, (x, v) -> x.logged(0, 4, v));
        BOUNDS.outside("what of sign NONE", BUSY.get(m), 0, 1, NSE, (x, v) -> x.logged(0, NONE, v));
    }

    /** "Of sign k of a message: 0 what was keyed, 1 what came of it.": the first and the last of 60, of the first and the last of 20. */
    private static void loggedOfFullMessage(int m) {
        for (int message : new int[] {0, 19}) {
            RotorBench x = Benches.messages(m, message);
            x.plug(1, 0, m - 1);
            x.reflects(true);
            x.open();
            int[] came = new int[60];
            for (int i = 0; i < 60; i++) {
                came[i] = x.key((m - 1 + i) % m);
            }
            for (int i = 0; i < 60; i++) {
                CHECK.is("keyed " + i, x.logged(message, i, 0), (m - 1 + i) % m);
                CHECK.is("came " + i, x.logged(message, i, 1), came[i]);
            }
            x.close();
            CHECK.is("the last, when it is closed", x.logged(message, 59, 1), came[59]);
        }
    }

    /** "NoSuchElementException: message." */
    private static void replayMessages(int m) {
        BOUNDS.range("replay", TWENTY.get(m), 0, 19, NSE, (x, v) -> x.replay(v));
        BOUNDS.range("replay of two", BUSY.get(m), 0, 1, NSE, (x, v) -> x.replay(v));
        BOUNDS.outside("open: replay", OPEN.get(m), 0, 2, NSE, (x, v) -> x.replay(v));
        BOUNDS.refuses("there is none", () -> Benches.bare(m), NSE, x -> x.replay(0));
    }

    /** "IllegalStateException: it is open." */
    private static void replayOfOpen(int m) {
        BOUNDS.refuses("it is open", OPEN.get(m), ISE, x -> x.replay(2));
        BOUNDS.refuses("it is open and full", FULL.get(m), ISE, x -> x.replay(0));
        BOUNDS.refuses("it is open and empty", () -> Benches.openWith(m, 0), ISE, x -> x.replay(0));
        BOUNDS.takes("another is open", OPEN.get(m), x -> x.replay(1));
        RotorBench x = Benches.openWith(m, 60);
        x.close();
        CHECK.is("it is closed", x.replay(0), NONE);
    }

    /** "NONE if there is none" */
    private static void replayOfNothing(int m) {
        RotorBench x = Benches.busy(m);
        CHECK.is("the same comes", x.replay(0), NONE);
        CHECK.is("nothing was keyed", x.replay(1), NONE);
        x.path(2);
        x.rule(3);
        CHECK.is("nothing was keyed, on any path", x.replay(1), NONE);
    }

    /** "The first sign of a message of which [..] something else comes": the first, the last, and the first of several. */
    private static void replayFindsEachSign(int m) {
        for (int other : new int[] {0, 1, 30, 58, 59}) {
            RotorBench x = Benches.bare(m);
            x.reflects(true);
            x.open();
            for (int i = 0; i < 60; i++) {
                x.key(i < other ? 0 : m - 1);
            }
            x.close();
            CHECK.is("the same comes", x.replay(0), NONE);
            x.plug(1, m - 1, 1);
            CHECK.is("the first other one", x.replay(0), other);
            x.unplug(1, 1);
            CHECK.is("the same comes again", x.replay(0), NONE);
        }
    }

    /** "keyed again from the same positions": from the last ones, over the end. */
    private static void replayFromLastPositions(int m) {
        RotorBench x = Benches.bare(m);
        for (int s = 0; s < 6; s++) {
            x.fill(s, s);
            for (int c = 0; c < 4; c++) {
                x.wire(s, c, (3 * c + s + 5) % m);
            }
            x.notch(s, m - 1, true);
            x.set(0, s, m - 1);
        }
        x.open();
        for (int i = 0; i < 60; i++) {
            x.key(i % m);
        }
        x.close();
        CHECK.is("from where it is now", x.replay(0), NONE);
        for (int s = 0; s < 6; s++) {
            x.set(0, s, s);
        }
        CHECK.is("from where it was then", x.replay(0), NONE);
        for (int s = 0; s < 6; s++) {
            CHECK.is("and it is where it is", x.at(0, s), s);
        }
    }

    /** "(The machine is as it was then.)" */
    private static void replayLeavesItAsItWas(int m) {
        for (Benches.Maker maker : new Benches.Maker[] {BUSY.get(m), OPEN.get(m)}) {
            for (int which = 0; which < Probe.PROBES; which++) {
                for (int message = 0; message < 2; message++) {
                    RotorBench x = maker.make();
                    x.replay(message);
                    boolean same = Probe.look(x, which).equals(Probe.look(maker.make(), which));
                    CHECK.is("replay(" + message + ") leaves it as it was, look " + which, same, true);
                }
            }
        }
    }

    /** A message of one sign, keyed when pin wheel k of so many pins was at a place; the bar is then at its next pin. */
    private static RotorBench caged(int k, int length, int place) {
        RotorBench x = new RotorBench();
        x.path(2);
        x.lugs(0, k, NONE);
        x.pins(k, length);
        x.set(1, k, place);
        x.open();
        x.key(0);
        x.close();
        return x;
    }

    /** The pin that is active when the message's sign is keyed again, all others being down. */
    private static int activePin(RotorBench x, int k, int length) {
        int found = NONE;
        for (int pin = 0; pin < length; pin++) {
            x.pin(k, pin, true);
            if (x.replay(0) == 0) {
                CHECK.is("but one pin is the active one", found, NONE);
                found = pin;
            }
            x.pin(k, pin, false);
        }
        return found;
    }

    /** "(those of slots and pin wheels that are there now, round, if they are too great)" */
    private static void replayRoundOnShorterPinWheels() {
        for (int k : new int[] {0, 11}) {
            for (int length : new int[] {1, 2, 30, 31, 60, 61}) {
                RotorBench x = caged(k, 61, 60);
                x.pins(k, length);
                CHECK.is("place 60 on " + length + " pins, then on", activePin(x, k, length), (60 % length + 1) % length);
                CHECK.is("its place is as it was", x.at(1, k), 0);
            }
            // Just not too great, just too great, and twice round.
            RotorBench x = caged(k, 10, 4);
            for (int length : new int[] {5, 4, 2, 6}) {
                x.pins(k, length);
                CHECK.is("place 4 on " + length + " pins, then on", activePin(x, k, length), (4 % length + 1) % length);
            }
        }
    }

    /** "keyed again from the same positions and places": on a longer pin wheel the place is not too great. */
    private static void replayOnLongerPinWheels() {
        for (int k : new int[] {0, 11}) {
            RotorBench x = caged(k, 3, 2);
            x.pins(k, 61);
            x.set(1, k, 40);
            CHECK.is("place 2 on 61 pins, then on", activePin(x, k, 61), 3);
            CHECK.is("its place is as it was", x.at(1, k), 40);
        }
    }

    /** "pin wheels that are there now": one that is none now has no active pin. */
    private static void replayWithPinWheelsThatAreNoneNow() {
        RotorBench x = new RotorBench();
        x.path(2);
        x.lugs(0, 0, 11);
        x.pins(0, 1);
        x.pin(0, 0, true);
        x.pins(11, 61);
        x.set(1, 11, 60);
        x.open();
        CHECK.is("a bar is taken", x.key(0), 1);
        x.close();
        x.pins(11, 0);
        CHECK.is("a pin wheel that did not matter is none", x.replay(0), NONE);
        CHECK.is("its place is 0 for none", x.at(1, 11), 0);
        x.pins(0, 0);
        CHECK.is("no bar is taken", x.replay(0), 0);
    }

    /** "pin wheels that are there now": the place of one that was none then is 0, as at() says. */
    private static void replayWithPinWheelsThatWereNone() {
        RotorBench x = new RotorBench();
        x.path(2);
        x.lugs(0, 11, NONE);
        x.open();
        CHECK.is("no bar is taken", x.key(0), 0);
        x.close();
        x.pins(11, 5);
        x.set(1, 11, 3);
        CHECK.is("from place 0, then on", activePin(x, 11, 5), 1);
        CHECK.is("its place is as it was", x.at(1, 11), 3);
    }

    /** "slots [..] that are there now": one that is empty now is not gone through. */
    private static void replayWithSlotsThatAreEmptyNow() {
        RotorBench x = new RotorBench();
        x.fill(0, 0);
        x.fill(5, 5);
        x.wire(5, 0, 25);
        x.open();
        CHECK.is("through the last slot", x.key(0), 25);
        x.close();
        CHECK.is("the slot goes", x.fill(5, NONE), 5);
        CHECK.is("something else comes", x.replay(0), 0);
        x.fill(5, 5);
        CHECK.is("the slot is there again", x.replay(0), NONE);
        x.fill(0, NONE);
        CHECK.is("without the first one slot 5 is the first, and steps", x.replay(0), 0);
        x.rule(2);
        x.notch(5, 0, true);
        CHECK.is("unless its notch holds it", x.replay(0), NONE);
    }

    /** "IllegalArgumentException: none of these." */
    private static void countRange(int m) {
        BOUNDS.range("count", BUSY.get(m), 0, 7, IAE, (x, v) -> x.count(v));
        BOUNDS.range("open: count", OPEN.get(m), 0, 7, IAE, (x, v) -> x.count(v));
    }

    /** "0 contacts" */
    private static void countContacts() {
        RotorBench x = new RotorBench();
        CHECK.is("contacts at first", x.count(0), 26);
        for (int m : Benches.CONTACTS) {
            x.contacts(m);
            CHECK.is("contacts", x.count(0), m);
        }
        CHECK.refuses("contacts 33", IAE, () -> x.contacts(33));
        CHECK.is("contacts after a refused call", x.count(0), 32);
    }

    /** "1 filled slots" */
    private static void countFilled() {
        RotorBench x = new RotorBench();
        for (int s = 5; s >= 0; s--) {
            CHECK.is("filled", x.count(1), 5 - s);
            x.fill(s, s);
        }
        CHECK.is("all filled", x.count(1), 6);
        x.fill(0, 7);
        CHECK.is("still all filled", x.count(1), 6);
        for (int s = 0; s < 6; s++) {
            x.fill(s, NONE);
            x.fill(s, NONE);
            CHECK.is("filled still", x.count(1), 5 - s);
        }
    }

    /** "2 pairs of the plugboard, 3 those of the reflector" */
    private static void countPairs() {
        for (int m : Benches.CONTACTS) {
            for (int part = 0; part < 2; part++) {
                RotorBench x = Benches.bare(m);
                for (int pairs = 0; pairs < m / 2; pairs++) {
                    CHECK.is("pairs", x.count(2 + part), pairs);
                    x.plug(part, 2 * pairs + 1, 2 * pairs);
                }
                CHECK.is("all in pairs", x.count(2 + part), m / 2);
                CHECK.is("none of the other", x.count(3 - part), 0);
                for (int pairs = m / 2; pairs > 0; pairs--) {
                    x.unplug(part, 2 * pairs - 1);
                    x.unplug(part, 2 * pairs - 1);
                    CHECK.is("pairs left", x.count(2 + part), pairs - 1);
                }
            }
        }
    }

    /** "4 pin wheels that are some" */
    private static void countPinWheels() {
        RotorBench x = new RotorBench();
        for (int k = 0; k < 12; k++) {
            CHECK.is("some", x.count(4), k);
            x.pins(k, 0);
            CHECK.is("one more of none", x.count(4), k);
            x.pins(k, k % 2 == 0 ? 1 : 61);
        }
        CHECK.is("all", x.count(4), 12);
        for (int k = 0; k < 12; k++) {
            x.pins(k, 61);
            CHECK.is("no more than before", x.count(4), 12 - k);
            x.pins(k, 0);
        }
        CHECK.is("none", x.count(4), 0);
    }

    /** "5 messages (the open one, too)" */
    private static void countMessages() {
        RotorBench x = new RotorBench();
        for (int i = 0; i < 20; i++) {
            CHECK.is("messages", x.count(5), i);
            x.open();
            CHECK.is("the open one, too", x.count(5), i + 1);
            x.close();
            CHECK.is("it stays when it ends", x.count(5), i + 1);
        }
        CHECK.refuses("one more", ISE, x::open);
        CHECK.is("20 messages", x.count(5), 20);
        x.contacts(10);
        CHECK.is("they go", x.count(5), 0);
    }

    /** "6 1 if one is open, else 0" */
    private static void countOpen() {
        RotorBench x = new RotorBench();
        CHECK.is("none at first", x.count(6), 0);
        for (int i = 0; i < 3; i++) {
            x.open();
            CHECK.is("one is open", x.count(6), 1);
            x.close();
            CHECK.is("none is", x.count(6), 0);
        }
    }

    /** "7 steps that can be undone" */
    private static void countSteps() {
        RotorBench x = new RotorBench();
        x.open();
        for (int i = 0; i <= 45; i++) {
            CHECK.is("steps after " + i + " keys", x.count(7), Math.min(i, 40));
            x.key(0);
        }
        x.close();
        CHECK.is("steps of the message", x.count(7), 40);
        x.undo();
        CHECK.is("one is undone", x.count(7), 39);
        x.back(0);
        x.back(0);
        CHECK.is("no more than 40", x.count(7), 40);
        x.set(0, 0, 0);
        CHECK.is("nothing can be undone", x.count(7), 0);
    }
}
