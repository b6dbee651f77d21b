import java.util.NoSuchElementException;

/** Promises 23 to 27: messages, their replay, and the counts. */
public final class MessagesTest {
    private static final Class<NoSuchElementException> NSE = NoSuchElementException.class;
    private static final Class<IllegalArgumentException> IAE = IllegalArgumentException.class;
    private static final Class<IllegalStateException> ISE = IllegalStateException.class;
    private static final int NONE = RotorBench.NONE;
    private static final Check CHECK = new Check("MessagesTest");

    public static void main(String[] args) {
        openAndClose();
        twentyMessages();
        logged();
        replay();
        replayFindsTheFirst();
        replayOfAnotherWhileOpen();
        replayFromPositionsOfThen();
        replayWithOtherPinWheels();
        replayOfEachPinWheel();
        replayLeavesAll();
        count();
        CHECK.end();
    }

    private static void openAndClose() {
        RotorBench x = new RotorBench();
        CHECK.refuses("close at first", ISE, x::close);
        CHECK.is("open", x.open(), 0);
        CHECK.refuses("open again", ISE, x::open);
        CHECK.is("an empty message", x.close(), 0);
        CHECK.refuses("close again", ISE, x::close);
        x.key(3);
        CHECK.is("open the next", x.open(), 1);
        x.key(4);
        x.key(5);
        CHECK.is("two signs", x.close(), 2);
        x.key(6);
        CHECK.is("what is keyed outside is not logged", x.logged(1, 1, 0), 5);
        CHECK.refuses("no third sign", NSE, () -> x.logged(1, 2, 0));
        CHECK.refuses("no sign in the first", NSE, () -> x.logged(0, 0, 0));
    }

    private static void twentyMessages() {
        RotorBench x = new RotorBench();
        for (int i = 0; i < 20; i++) {
            CHECK.is("message " + i, x.open(), i);
            x.key(i);
            CHECK.is("signs of " + i, x.close(), 1);
        }
        CHECK.refuses("message 20", ISE, x::open);
        CHECK.is("twenty", x.count(5), 20);
        CHECK.is("none is open", x.count(6), 0);
        for (int i = 0; i < 20; i++) {
            CHECK.is("sign of " + i, x.logged(i, 0, 0), i);
            CHECK.is("replay of " + i, x.replay(i), NONE);
        }
        CHECK.refuses("replay 20", NSE, () -> x.replay(20));
        CHECK.refuses("logged of 20", NSE, () -> x.logged(20, 0, 0));
        x.contacts(26);
        CHECK.is("messages begin anew", x.open(), 0);
        CHECK.refuses("with no signs", NSE, () -> x.logged(0, 0, 0));
        CHECK.is("none at all", x.close(), 0);
    }

    private static void logged() {
        RotorBench x = new RotorBench();
        x.fill(0, 0);
        x.wire(0, 1, 4);
        x.open();
        CHECK.refuses("no sign yet", NSE, () -> x.logged(0, 0, 0));
        x.key(0);
        CHECK.is("keyed, while open", x.logged(0, 0, 0), 0);
        CHECK.is("came, while open", x.logged(0, 0, 1), 3);
        x.key(9);
        x.close();
        CHECK.is("keyed second", x.logged(0, 1, 0), 9);
        CHECK.is("came second", x.logged(0, 1, 1), 9);
        for (int what : new int[] {-1, 2, Integer.MIN_VALUE, Integer.MAX_VALUE}) {
            CHECK.refuses("logged what " + what, IAE, () -> x.logged(0, 0, what));
            CHECK.refuses("no such sign, what " + what, NSE, () -> x.logged(0, 2, what));
            CHECK.refuses("no such message, what " + what, NSE, () -> x.logged(1, 0, what));
        }
        for (int no : new int[] {-1, 2, 60, Integer.MIN_VALUE, Integer.MAX_VALUE}) {
            CHECK.refuses("logged message " + no, NSE, () -> x.logged(no, 0, 0));
            CHECK.refuses("logged sign " + no, NSE, () -> x.logged(0, no, 0));
        }
        RotorBench y = new RotorBench();
        y.path(2);
        y.open();
        for (int i = 0; i < 60; i++) {
            y.key(i % 26);
        }
        y.close();
        for (int i = 0; i < 60; i++) {
            CHECK.is("keyed " + i, y.logged(0, i, 0), i % 26);
            CHECK.is("came " + i, y.logged(0, i, 1), (26 - i % 26) % 26);
        }
        CHECK.refuses("sign 60", NSE, () -> y.logged(0, 60, 0));
    }

    private static void replay() {
        RotorBench x = new RotorBench();
        CHECK.refuses("no message", NSE, () -> x.replay(0));
        x.open();
        CHECK.refuses("it is open", ISE, () -> x.replay(0));
        CHECK.refuses("there is no other", NSE, () -> x.replay(1));
        x.close();
        CHECK.is("an empty message", x.replay(0), NONE);
        x.path(2);
        CHECK.is("an empty message on another path", x.replay(0), NONE);
        for (int no : new int[] {-1, 1, 20, Integer.MIN_VALUE, Integer.MAX_VALUE}) {
            CHECK.refuses("message " + no, NSE, () -> x.replay(no));
        }
    }

    private static void replayFindsTheFirst() {
        RotorBench x = new RotorBench();
        x.open();
        for (int i = 0; i < 60; i++) {
            x.key(i % 13);
        }
        x.close();
        CHECK.is("the same comes", x.replay(0), NONE);
        for (int c = 12; c >= 0; c--) {
            x.plug(0, c, c + 13);
            // The plugboard alone changes nothing on path 0 with no wheels.
            CHECK.is("the plugboard twice", x.replay(0), NONE);
        }
        x.reflects(true);
        x.plug(1, 13 + 7, 13 + 9);
        CHECK.is("sign 7 is the first", x.replay(0), 7);
        x.unplug(1, 13 + 7);
        CHECK.is("the same again", x.replay(0), NONE);
        x.plug(1, 13, 0);
        CHECK.is("the first of all", x.replay(0), 0);
        RotorBench y = new RotorBench();
        y.open();
        for (int i = 0; i < 59; i++) {
            y.key(1);
        }
        y.key(2);
        y.close();
        y.reflects(true);
        y.plug(1, 2, 3);
        CHECK.is("the last of all", y.replay(0), 59);
    }

    private static void replayOfAnotherWhileOpen() {
        RotorBench x = new RotorBench();
        x.fill(0, 0);
        x.wire(0, 1, 4);
        x.open();
        x.key(0);
        x.key(0);
        x.close();
        x.open();
        x.key(5);
        CHECK.is("another may be replayed", x.replay(0), NONE);
        CHECK.refuses("the open one may not", ISE, () -> x.replay(1));
        CHECK.is("position", x.at(0, 0), 3);
        x.key(6);
        CHECK.is("the open one has its own signs", x.close(), 2);
        CHECK.is("its second", x.logged(1, 1, 0), 6);
        CHECK.is("its replay", x.replay(1), NONE);
    }

    private static void replayFromPositionsOfThen() {
        RotorBench x = new RotorBench();
        x.fill(0, 0);
        x.fill(5, 1);
        x.wire(0, 1, 4);
        x.wire(1, 9, 2);
        x.notch(0, 8, true);
        x.set(0, 0, 7);
        x.set(0, 5, 21);
        x.set(0, 2, 3);
        x.open();
        for (int i = 0; i < 26; i++) {
            x.key(i);
        }
        x.close();
        x.set(0, 0, 0);
        x.set(0, 5, 1);
        x.set(0, 2, 25);
        CHECK.is("from the positions of then", x.replay(0), NONE);
        // An empty slot's position is logged, too: wheel 2 is now turned to 3, and to 4 by the step.
        x.fill(0, NONE);
        x.fill(5, NONE);
        x.fill(2, 2);
        x.rule(4);
        x.open();
        x.key(7);
        x.close();
        x.wire(2, 4, 5);
        CHECK.is("a slot filled since stands where it stood", x.replay(0), 0);
        x.wire(2, 4, 4);
        CHECK.is("and turned back", x.replay(1), NONE);
    }

    private static void replayWithOtherPinWheels() {
        RotorBench x = new RotorBench();
        x.path(2);
        x.lugs(0, 4, NONE);
        x.pins(4, 7);
        x.pin(4, 6, true);
        x.set(1, 4, 5);
        x.open();
        CHECK.is("pin 6 is up", x.key(0), 1);
        CHECK.is("pin 0 is down", x.key(0), 0);
        x.close();
        CHECK.is("the same", x.replay(0), NONE);
        // Place 5 of then is place 1 of 4 now: pins 2 and 3 are the active ones.
        x.pins(4, 4);
        CHECK.is("all pins are down", x.replay(0), 0);
        x.pin(4, 2, true);
        CHECK.is("round, if it is too great", x.replay(0), NONE);
        x.pin(4, 3, true);
        CHECK.is("the second sign", x.replay(0), 1);
        // Place 5 of then is place 0 of 5 now.
        x.pins(4, 5);
        x.pin(4, 1, true);
        CHECK.is("just round", x.replay(0), NONE);
        x.pins(4, 0);
        CHECK.is("none now", x.replay(0), 0);
        x.pins(3, 2);
        x.pin(3, 1, true);
        x.lugs(0, 3, NONE);
        x.set(1, 3, 1);
        CHECK.is("one that was none stands at 0", x.replay(0), NONE);
        CHECK.is("and is where it was", x.at(1, 3), 1);
    }

    private static void replayOfEachPinWheel() {
        for (int k = 0; k < 12; k++) {
            RotorBench x = new RotorBench();
            x.path(2);
            x.lugs(9, NONE, k);
            x.pins(k, 61);
            x.set(1, k, 59);
            x.pin(k, 60, true);
            x.open();
            x.key(0);
            x.close();
            x.set(1, k, 0);
            CHECK.is("the place of then of pin wheel " + k, x.replay(0), NONE);
            // Place 59 of then is place 9 of 10 now; 0 is the next.
            x.pins(k, 10);
            x.pin(k, 0, true);
            x.set(1, k, 3);
            CHECK.is("round on pin wheel " + k, x.replay(0), NONE);
            x.pin(k, 0, false);
            CHECK.is("the pin is down on pin wheel " + k, x.replay(0), 0);
            CHECK.is("one pin wheel, " + k, x.count(4), 1);
        }
    }

    private static void replayLeavesAll() {
        RotorBench x = new RotorBench();
        x.fill(0, 0);
        x.wire(0, 1, 4);
        x.pins(0, 5);
        x.open();
        x.key(0);
        x.key(1);
        x.close();
        x.key(2);
        x.replay(0);
        CHECK.is("position", x.at(0, 0), 3);
        CHECK.is("place", x.at(1, 0), 3);
        CHECK.is("steps", x.count(7), 3);
        x.wire(0, 1, 1);
        CHECK.is("something else comes", x.replay(0), 0);
        CHECK.is("position after that", x.at(0, 0), 3);
        CHECK.is("place after that", x.at(1, 0), 3);
        CHECK.is("what came stays logged", x.logged(0, 0, 1), 3);
        CHECK.is("undo", x.undo(), 2);
        CHECK.is("undone", x.at(0, 0), 2);
    }

    private static void count() {
        RotorBench x = new RotorBench();
        int[] due = {26, 0, 0, 0, 0, 0, 0, 0};
        counts("new", x, due);
        for (int s = 0; s < 6; s++) {
            x.fill(s, s + 2);
        }
        due[1] = 6;
        for (int c = 0; c < 13; c++) {
            x.plug(0, c, 25 - c);
        }
        due[2] = 13;
        x.plug(1, 0, 1);
        x.plug(1, 2, 3);
        due[3] = 2;
        for (int k = 0; k < 12; k++) {
            x.pins(k, k);
        }
        due[4] = 11;
        counts("set", x, due);
        x.open();
        x.key(0);
        due[5] = 1;
        due[6] = 1;
        due[7] = 1;
        counts("open", x, due);
        x.close();
        x.open();
        x.close();
        due[5] = 2;
        due[6] = 0;
        counts("closed", x, due);
        x.fill(3, NONE);
        x.unplug(0, 0);
        x.unplug(1, 3);
        x.pins(5, 0);
        counts("less", x, new int[] {26, 5, 12, 1, 10, 2, 0, 0});
        x.contacts(10);
        counts("cleared", x, new int[] {10, 0, 0, 0, 0, 0, 0, 0});
        for (int what : new int[] {-1, 8, Integer.MIN_VALUE, Integer.MAX_VALUE}) {
            CHECK.refuses("count " + what, IAE, () -> x.count(what));
        }
    }

    private static void counts(String when, RotorBench x, int[] due) {
        for (int what = 0; what < 8; what++) {
            CHECK.is(when + ": count " + what, x.count(what), due[what]);
        }
    }
}
