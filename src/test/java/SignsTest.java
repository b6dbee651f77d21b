import java.util.NoSuchElementException;

/** Promises 16 to 22: keys, back again, images, undoing, periods and fixed signs. */
public final class SignsTest {
    private static final Class<NoSuchElementException> NSE = NoSuchElementException.class;
    private static final Class<IllegalArgumentException> IAE = IllegalArgumentException.class;
    private static final Class<IllegalStateException> ISE = IllegalStateException.class;
    private static final Check CHECK = new Check("SignsTest");

    public static void main(String[] args) {
        key();
        keyInFullMessage();
        back();
        backOnEveryPath();
        image();
        at();
        undo();
        undoAtMostForty();
        undoAfterSettings();
        undoInMessages();
        period();
        periodEdges();
        periodLeavesAll();
        fixed();
        CHECK.end();
    }

    /** Three wheels that are no exchanges, so that forth and back differ. */
    private static RotorBench bench() {
        RotorBench x = new RotorBench();
        for (int wheel = 0; wheel < 3; wheel++) {
            for (int a = 0; a < 25; a++) {
                x.wire(wheel, a, (a * (2 * wheel + 3) + wheel + 1) % 26);
            }
            x.ring(wheel, wheel + 4);
            x.notch(wheel, 2 * wheel + 1, true);
            x.fill(2 * wheel, wheel);
        }
        x.plug(0, 0, 13);
        x.plug(0, 7, 25);
        x.pins(0, 3);
        x.pin(0, 1, true);
        return x;
    }

    private static void key() {
        RotorBench x = new RotorBench();
        x.fill(0, 0);
        x.wire(0, 1, 4);
        // First the step: at position 1, contact 0 enters at 1 and 4 leaves at 3.
        CHECK.is("key steps first", x.key(0), 3);
        CHECK.is("position", x.at(0, 0), 1);
        CHECK.is("a step to undo", x.count(7), 1);
        for (int sign : new int[] {-1, 26, Integer.MIN_VALUE, Integer.MAX_VALUE}) {
            CHECK.refuses("key " + sign, NSE, () -> x.key(sign));
        }
        CHECK.is("refused keys do not step", x.at(0, 0), 1);
        CHECK.is("nor are they to undo", x.count(7), 1);
        x.contacts(10);
        CHECK.is("the last of 10", x.key(9), 9);
        CHECK.refuses("key 10 of 10", NSE, () -> x.key(10));
        x.contacts(32);
        CHECK.is("the last of 32", x.key(31), 31);
        CHECK.refuses("key 32 of 32", NSE, () -> x.key(32));
    }

    private static void keyInFullMessage() {
        RotorBench x = new RotorBench();
        x.fill(0, 0);
        x.open();
        for (int i = 0; i < 60; i++) {
            x.key(i % 26);
        }
        CHECK.is("60 steps", x.at(0, 0), 60 % 26);
        CHECK.refuses("key 61", ISE, () -> x.key(0));
        CHECK.refuses("a wrong key 61", NSE, () -> x.key(26));
        CHECK.is("key 61 does not step", x.at(0, 0), 60 % 26);
        CHECK.is("nor is it logged", x.close(), 60);
        CHECK.is("a key outside", x.key(3), 3);
        CHECK.is("it steps", x.at(0, 0), 61 % 26);
    }

    private static void back() {
        RotorBench x = bench();
        CHECK.is("back steps", x.back(3) >= 0, true);
        CHECK.is("position", x.at(0, 0), 1);
        CHECK.is("place", x.at(1, 0), 1);
        CHECK.is("a step to undo", x.count(7), 1);
        CHECK.refuses("back 26", NSE, () -> x.back(26));
        CHECK.refuses("back -1", NSE, () -> x.back(-1));
        CHECK.is("refused back does not step", x.at(0, 0), 1);
        x.open();
        CHECK.refuses("back while open", ISE, () -> x.back(0));
        CHECK.refuses("wrong back while open", NSE, () -> x.back(26));
        CHECK.is("nor does that", x.at(0, 0), 1);
        CHECK.is("nothing is logged", x.close(), 0);
        RotorBench y = new RotorBench();
        y.fill(0, 0);
        y.wire(0, 0, 1);
        y.wire(0, 1, 2);
        y.set(0, 0, 25);
        // Now 0 leads to 1, 1 to 2 and 2 to 0.
        CHECK.is("2 comes of 1", y.back(2), 1);
        y.set(0, 0, 25);
        CHECK.is("0 comes of 2", y.back(0), 2);
    }

    private static void backOnEveryPath() {
        for (int path = 0; path < 3; path++) {
            for (int m : new int[] {26, 32}) {
                RotorBench x = m == 26 ? bench() : new RotorBench();
                if (m == 32) {
                    x.contacts(32);
                    x.plug(0, 3, 30);
                    x.pins(2, 2);
                    x.pin(2, 1, true);
                }
                x.lugs(4, 2, 0);
                x.path(path);
                for (int reflecting = 0; reflecting < 2; reflecting++) {
                    x.reflects(reflecting == 1);
                    for (int sign = 0; sign < m; sign += 3) {
                        int came = x.key(sign);
                        x.undo();
                        CHECK.is("back of key " + sign + ", path " + path, x.back(came), sign);
                    }
                }
            }
        }
    }

    private static void image() {
        RotorBench x = bench();
        boolean[] seen = new boolean[26];
        for (int c = 0; c < 26; c++) {
            seen[x.image(c)] = true;
        }
        for (int c = 0; c < 26; c++) {
            CHECK.is("image reaches " + c, seen[c], true);
        }
        CHECK.is("image does not step", x.at(0, 0) + x.at(1, 0), 0);
        CHECK.is("nothing to undo", x.count(7), 0);
        int came = x.key(5);
        CHECK.is("image is what came", x.image(5), came);
        for (int sign : new int[] {-1, 26, Integer.MIN_VALUE, Integer.MAX_VALUE}) {
            CHECK.refuses("image " + sign, NSE, () -> x.image(sign));
        }
        x.open();
        CHECK.is("image while open", x.image(5), came);
        CHECK.is("it is not logged", x.close(), 0);
    }

    private static void at() {
        RotorBench x = new RotorBench();
        x.set(0, 5, 7);
        x.pins(11, 9);
        x.set(1, 11, 8);
        CHECK.is("a position", x.at(0, 5), 7);
        CHECK.is("a place", x.at(1, 11), 8);
        CHECK.is("a place of none", x.at(1, 5), 0);
        CHECK.refuses("slot 6", NSE, () -> x.at(0, 6));
        CHECK.refuses("slot 11", NSE, () -> x.at(0, 11));
        CHECK.refuses("slot -1", NSE, () -> x.at(0, -1));
        CHECK.refuses("pin wheel 12", NSE, () -> x.at(1, 12));
        CHECK.refuses("pin wheel -1", NSE, () -> x.at(1, -1));
        CHECK.refuses("kind 2", NSE, () -> x.at(2, 0));
        CHECK.refuses("kind -1", NSE, () -> x.at(-1, 0));
        x.open();
        CHECK.is("at while open", x.at(0, 5), 7);
    }

    private static void undo() {
        RotorBench x = bench();
        x.key(0);
        x.back(0);
        x.key(0);
        CHECK.is("slot 0", x.at(0, 0), 3);
        CHECK.is("slot 2", x.at(0, 2), 1);
        CHECK.is("undo", x.undo(), 2);
        CHECK.is("slot 0 undone", x.at(0, 0), 2);
        CHECK.is("slot 2 stays", x.at(0, 2), 1);
        CHECK.is("place undone", x.at(1, 0), 2);
        CHECK.is("undo", x.undo(), 1);
        CHECK.is("slot 2 undone", x.at(0, 2), 0);
        CHECK.is("count", x.count(7), 1);
        CHECK.is("undo", x.undo(), 0);
        CHECK.is("all undone", x.at(0, 0) + x.at(0, 2) + x.at(0, 4) + x.at(1, 0), 0);
        CHECK.refuses("undo nothing", ISE, x::undo);
    }

    private static void undoAtMostForty() {
        RotorBench x = bench();
        for (int i = 0; i < 39; i++) {
            x.key(0);
        }
        CHECK.is("39 steps", x.count(7), 39);
        x.back(0);
        CHECK.is("40 steps", x.count(7), 40);
        for (int i = 0; i < 17; i++) {
            x.key(0);
        }
        CHECK.is("40 of 57 steps", x.count(7), 40);
        RotorBench y = bench();
        for (int i = 0; i < 17; i++) {
            y.key(0);
        }
        for (int i = 39; i >= 0; i--) {
            CHECK.is("undo one of forty", x.undo(), i);
        }
        CHECK.refuses("undo one of 41", ISE, x::undo);
        for (int s = 0; s < 6; s++) {
            CHECK.is("17 steps are left, slot " + s, x.at(0, s), y.at(0, s));
        }
        CHECK.is("17 steps are left, place", x.at(1, 0), y.at(1, 0));
    }

    private static void undoAfterSettings() {
        RotorBench x = bench();
        x.key(0);
        x.key(0);
        // Settings other than set() and pins() leave the steps as they were.
        x.fill(2, -1);
        x.rule(4);
        x.notch(0, 1, false);
        x.wire(0, 0, 1);
        x.ring(0, 0);
        x.path(1);
        x.reflects(true);
        x.lugs(0, 0, 0);
        x.plug(0, 1, 2);
        x.unplug(0, 1);
        x.pin(0, 0, true);
        CHECK.is("two steps", x.count(7), 2);
        CHECK.is("undo", x.undo(), 1);
        CHECK.is("slot 2 is empty and undone", x.at(0, 2), 0);
        CHECK.is("slot 0 is undone", x.at(0, 0), 1);
        x.set(0, 5, 0);
        CHECK.refuses("undo after set", ISE, x::undo);
        x.key(0);
        x.pins(9, 0);
        CHECK.refuses("undo after pins", ISE, x::undo);
        x.key(0);
        x.contacts(26);
        CHECK.refuses("undo after contacts", ISE, x::undo);
    }

    private static void undoInMessages() {
        RotorBench x = bench();
        x.key(0);
        x.open();
        x.key(0);
        CHECK.refuses("undo while open", ISE, x::undo);
        CHECK.is("it is as it was", x.at(0, 0), 2);
        x.close();
        CHECK.is("a message's step can be undone", x.undo(), 1);
        CHECK.is("the log stays", x.logged(0, 0, 0), 0);
        CHECK.is("and one before it", x.undo(), 0);
        x.open();
        CHECK.refuses("undo nothing while open", ISE, x::undo);
    }

    private static void period() {
        RotorBench x = new RotorBench();
        CHECK.is("nothing moves", x.period(1), 1);
        CHECK.is("nothing moves, most 5000", x.period(5000), 1);
        x.fill(0, 0);
        CHECK.is("one wheel", x.period(26), 26);
        CHECK.is("one wheel, most 25", x.period(25), 0);
        x.pins(3, 4);
        CHECK.is("with 4 pins", x.period(5000), 52);
        x.pins(11, 61);
        CHECK.is("with 61 pins", x.period(5000), 3172);
        CHECK.is("with 61 pins, most 3171", x.period(3171), 0);
        x.pins(7, 3);
        CHECK.is("too many", x.period(5000), 0);
        x.pins(3, 0);
        x.pins(7, 0);
        x.pins(11, 0);
        x.fill(1, 1);
        x.notch(0, 25, true);
        CHECK.is("two wheels", x.period(5000), 676);
        x.notch(0, 12, true);
        CHECK.is("two notches", x.period(5000), 338);
        x.contacts(10);
        for (int k = 0; k < 12; k++) {
            x.pins(k, 7);
            CHECK.is("pin wheel " + k + " alone", x.period(50), 7);
            x.pins(k, 0);
        }
        for (int s = 0; s < 6; s++) {
            x.fill(s, 0);
            CHECK.is("slot " + s + " alone", x.period(50), 10);
            x.fill(s, -1);
        }
    }

    private static void periodEdges() {
        RotorBench x = new RotorBench();
        for (int most : new int[] {0, -1, 5001, Integer.MIN_VALUE, Integer.MAX_VALUE}) {
            CHECK.refuses("period " + most, IAE, () -> x.period(most));
        }
        x.open();
        CHECK.refuses("period while open", ISE, () -> x.period(1));
        CHECK.refuses("wrong period while open", IAE, () -> x.period(0));
        x.close();
        // Under rule 2 the first slot can be held for ever, so that this position never comes again.
        x.rule(2);
        x.fill(0, 0);
        x.fill(1, 1);
        x.notch(0, 1, true);
        x.notch(1, 1, true);
        CHECK.is("what never comes again", x.period(5000), 0);
        x.set(0, 0, 1);
        x.set(0, 1, 1);
        CHECK.is("what is stuck", x.period(1), 1);
    }

    private static void periodLeavesAll() {
        RotorBench x = bench();
        x.key(1);
        x.key(2);
        int came = x.image(3);
        x.period(777);
        x.period(5000);
        CHECK.is("slot 0", x.at(0, 0), 2);
        CHECK.is("slot 2", x.at(0, 2), 1);
        CHECK.is("place", x.at(1, 0), 2);
        CHECK.is("steps", x.count(7), 2);
        CHECK.is("image", x.image(3), came);
        CHECK.is("undo", x.undo(), 1);
        CHECK.is("slot 2 undone", x.at(0, 2), 0);
    }

    private static void fixed() {
        RotorBench x = new RotorBench();
        for (int m : new int[] {10, 26, 32}) {
            x.contacts(m);
            CHECK.is("all of " + m, x.fixed(), m);
            x.fill(0, 0);
            x.wire(0, 0, m - 1);
            CHECK.is("but two of " + m, x.fixed(), m - 2);
            x.wire(0, 0, m - 2);
            CHECK.is("but three of " + m, x.fixed(), m - 3);
            x.path(2);
            CHECK.is("two of " + m + " by path 2", x.fixed(), 2);
            x.pins(0, 1);
            x.pin(0, 0, true);
            x.lugs(26, 0, -1);
            CHECK.is("none of " + m + " by path 2", x.fixed(), 0);
            CHECK.is("nothing steps", x.at(0, 0), 0);
            x.open();
            CHECK.is("while open", x.fixed(), 0);
            CHECK.is("nothing is logged", x.close(), 0);
        }
    }
}
