import java.util.Map;
import java.util.NoSuchElementException;

/** The edges that promises 16 to 22 name; the sentence stands above its test. */
public final class SignsBoundsTest {
    private static final Class<NoSuchElementException> NSE = NoSuchElementException.class;
    private static final Class<IllegalArgumentException> IAE = IllegalArgumentException.class;
    private static final Class<IllegalStateException> ISE = IllegalStateException.class;
    private static final int NONE = RotorBench.NONE;
    private static final Map<Integer, Benches.Maker> BUSY = Bounds.forEach(Benches::busy);
    private static final Map<Integer, Benches.Maker> OPEN = Bounds.forEach(Benches::open);
    private static final Map<Integer, Benches.Maker> FULL = Bounds.forEach(m -> Benches.openWith(m, 60));
    private static final Check CHECK = new Check("SignsBoundsTest");
    private static final Bounds BOUNDS = new Bounds(CHECK);

    public static void main(String[] args) {
        for (int m : Benches.CONTACTS) {
            keyRange(m);
            keyInFullMessage(m);
            keyStepsFirst(m);
            backRange(m);
            backIsTheWayRound(m);
            backCanBeUndone(m);
            imageRange(m);
            imageStepsNothing(m);
            atRanges(m);
            atOfNone(m);
            undoWhileOpen(m);
            undoWhenNoneCanBe(m);
            periodRange(m);
            periodJustAtMost(m);
            periodLeavesItAsItWas(m);
            fixedFromNoneToAll(m);
            fixedWhileOpen(m);
        }
        undoAnswersHowManyMore();
        undoAfterOtherSettings();
        periodOfNothing();
        periodOfFiveThousand();
        periodOfWhatNeverComesAgain();
        CHECK.end();
    }

    /** "A key: what comes of the sign. NoSuchElementException." */
    private static void keyRange(int m) {
        BOUNDS.range("key", BUSY.get(m), 0, m - 1, NSE, (x, v) -> x.key(v));
        BOUNDS.range("open: key", OPEN.get(m), 0, m - 1, NSE, (x, v) -> x.key(v));
        BOUNDS.outside("key in a full message", FULL.get(m), 0, m - 1, NSE, (x, v) -> x.key(v));
    }

    /** "IllegalStateException: the open message has 60 signs." */
    private static void keyInFullMessage(int m) {
        for (int sign : new int[] {0, m - 1}) {
            BOUNDS.refuses("key " + sign + " in a full message", FULL.get(m), ISE, x -> x.key(sign));
        }
        for (int signs : new int[] {0, 1, 58, 59}) {
            RotorBench x = Benches.openWith(m, signs);
            CHECK.takes("key behind " + signs + " signs", () -> x.key(m - 1));
            CHECK.is("signs", x.close(), signs + 1);
        }
        RotorBench x = Benches.openWith(m, 60);
        x.close();
        CHECK.takes("key behind a closed full message", () -> x.key(0));
        CHECK.is("it is not logged", x.count(5), 1);
        CHECK.refuses("it is no 61st sign", NSE, () -> x.logged(0, 60, 0));
    }

    /** "A KEY: first the machine steps, then its sign takes the path.": from the last position to the first. */
    private static void keyStepsFirst(int m) {
        RotorBench x = Benches.bare(m);
        x.fill(0, 0);
        x.wire(0, 0, 5);
        x.set(0, 0, m - 1);
        CHECK.is("before the step", x.image(1), 6);
        CHECK.is("behind the last position", x.key(0), 5);
        CHECK.is("at the first", x.at(0, 0), 0);
        CHECK.is("one on", x.key(m - 1), 4);
    }

    /** "NoSuchElementException; IllegalStateException: a message is open." */
    private static void backRange(int m) {
        BOUNDS.setting("back", BUSY.get(m), OPEN.get(m), 0, m - 1, NSE, (x, v) -> x.back(v));
        // Even a message that has no room is an open one.
        BOUNDS.refuses("back in a full message", FULL.get(m), ISE, x -> x.back(0));
    }

    /** "Steps as a key does: the sign of which this one would have come." */
    private static void backIsTheWayRound(int m) {
        for (int path = 0; path < 3; path++) {
            for (boolean reflects : new boolean[] {false, true}) {
                RotorBench x = Benches.busy(m);
                x.path(path);
                x.reflects(reflects);
                for (int sign : new int[] {0, 1, 5, m - 2, m - 1}) {
                    int came = x.key(sign);
                    x.undo();
                    CHECK.is("path " + path + ", back to " + sign, x.back(came), sign);
                }
            }
        }
        RotorBench x = Benches.bare(m);
        x.fill(0, 0);
        for (int c = 0; c < m - 1; c++) {
            x.wire(0, c, c + 1);
        }
        x.set(0, 0, m - 1);
        CHECK.is("0 comes of the last", x.back(0), m - 1);
        CHECK.is("it stepped", x.at(0, 0), 0);
        CHECK.is("the last comes of the one before", x.back(m - 1), m - 2);
        CHECK.is("it stepped again", x.at(0, 0), 1);
    }

    /** "The latest 40 steps can be undone": those of back(), too. */
    private static void backCanBeUndone(int m) {
        RotorBench x = Benches.bare(m);
        x.fill(0, 0);
        for (int i = 0; i < 41; i++) {
            CHECK.is("steps by back", x.count(7), Math.min(i, 40));
            x.back(0);
        }
        CHECK.is("one goes", x.undo(), 39);
        CHECK.is("and leads back", x.at(0, 0), 40 % m);
    }

    /** "NoSuchElementException." */
    private static void imageRange(int m) {
        BOUNDS.range("image", BUSY.get(m), 0, m - 1, NSE, (x, v) -> x.image(v));
        BOUNDS.range("open: image", OPEN.get(m), 0, m - 1, NSE, (x, v) -> x.image(v));
        BOUNDS.range("image in a full message", FULL.get(m), 0, m - 1, NSE, (x, v) -> x.image(v));
    }

    /** "What would come of a sign if nothing stepped." */
    private static void imageStepsNothing(int m) {
        RotorBench x = Benches.open(m);
        RotorBench y = Benches.open(m);
        for (int c = 0; c < m; c++) {
            x.image(c);
        }
        for (int s = 0; s < 6; s++) {
            CHECK.is("position " + s, x.at(0, s), y.at(0, s));
        }
        for (int k = 0; k < 12; k++) {
            CHECK.is("place " + k, x.at(1, k), y.at(1, k));
        }
        CHECK.is("steps", x.count(7), y.count(7));
        CHECK.is("what comes next", x.key(0), y.key(0));
        CHECK.is("signs logged", x.close(), 3);
    }

    /** "NoSuchElementException: kind, slot or pin wheel." */
    private static void atRanges(int m) {
        for (Benches.Maker maker : new Benches.Maker[] {BUSY.get(m), OPEN.get(m)}) {
            BOUNDS.range("at kind", maker, 0, 1, NSE, (x, v) -> x.at(v, 0));
            BOUNDS.range("at slot", maker, 0, 5, NSE, (x, v) -> x.at(0, v));
            BOUNDS.range("at pin wheel", maker, 0, 11, NSE, (x, v) -> x.at(1, v));
            BOUNDS.refuses("a pin wheel's number for a slot", maker, NSE, x -> x.at(0, 11));
        }
    }

    /** "A slot's position (kind 0), or a pin wheel's place (1; 0 for none)." */
    private static void atOfNone(int m) {
        RotorBench x = Benches.bare(m);
        for (int k = 0; k < 12; k++) {
            x.pins(k, 61);
            x.set(1, k, 60);
            CHECK.is("the last place of " + k, x.at(1, k), 60);
            x.pins(k, 0);
            CHECK.is("0 for none, " + k, x.at(1, k), 0);
        }
        x.key(0);
        for (int k = 0; k < 12; k++) {
            CHECK.is("0 for none after a step, " + k, x.at(1, k), 0);
        }
        x.undo();
        for (int k = 0; k < 12; k++) {
            CHECK.is("0 for none after an undo, " + k, x.at(1, k), 0);
        }
        for (int s = 0; s < 6; s++) {
            x.set(0, s, m - 1 - s);
        }
        for (int s = 0; s < 6; s++) {
            CHECK.is("an empty slot has a position, " + s, x.at(0, s), m - 1 - s);
        }
    }

    /** "IllegalStateException: a message is open, or none can be." */
    private static void undoWhileOpen(int m) {
        BOUNDS.refuses("open: undo", OPEN.get(m), ISE, RotorBench::undo);
        BOUNDS.refuses("undo in a full message", FULL.get(m), ISE, RotorBench::undo);
        Benches.Maker nothing = () -> Benches.openWith(m, 0);
        BOUNDS.refuses("open, and none can be undone", nothing, ISE, RotorBench::undo);
        RotorBench x = Benches.open(m);
        x.close();
        CHECK.is("steps of the message and before it", x.undo(), 8);
    }

    /** "or none can be" */
    private static void undoWhenNoneCanBe(int m) {
        Benches.Maker bare = () -> Benches.bare(m);
        BOUNDS.refuses("undo at first", bare, ISE, RotorBench::undo);
        Benches.Maker undone = () -> {
            RotorBench x = Benches.busy(m);
            for (int i = 0; i < 7; i++) {
                x.undo();
            }
            return x;
        };
        BOUNDS.refuses("undo when all is undone", undone, ISE, RotorBench::undo);
        Benches.Maker set = () -> {
            RotorBench x = Benches.busy(m);
            x.set(0, 0, 0);
            return x;
        };
        BOUNDS.refuses("undo after set", set, ISE, RotorBench::undo);
        Benches.Maker cut = () -> {
            RotorBench x = Benches.busy(m);
            x.pins(9, 0);
            return x;
        };
        BOUNDS.refuses("undo after pins", cut, ISE, RotorBench::undo);
        Benches.Maker anew = () -> {
            RotorBench x = Benches.busy(m);
            x.contacts(m);
            return x;
        };
        BOUNDS.refuses("undo after contacts", anew, ISE, RotorBench::undo);
    }

    /** "The latest step that can be is undone: how many more can be." */
    private static void undoAnswersHowManyMore() {
        RotorBench x = new RotorBench();
        x.fill(0, 0);
        x.fill(1, 1);
        x.notch(0, 25, true);
        x.pins(11, 61);
        for (int i = 0; i < 100; i++) {
            x.key(0);
        }
        for (int i = 1; i <= 40; i++) {
            CHECK.is("undo " + i, x.undo(), 40 - i);
            CHECK.is("count after undo " + i, x.count(7), 40 - i);
            CHECK.is("slot 0 after undo " + i, x.at(0, 0), (100 - i) % 26);
            CHECK.is("slot 1 after undo " + i, x.at(0, 1), (100 - i) / 26);
            CHECK.is("place after undo " + i, x.at(1, 11), (100 - i) % 61);
        }
        CHECK.refuses("undo 41", ISE, x::undo);
        // Steps after an undo count on from there.
        for (int i = 1; i <= 41; i++) {
            x.key(0);
            CHECK.is("count after " + i + " more", x.count(7), Math.min(i, 40));
        }
        CHECK.is("slot 0 went on", x.at(0, 0), 101 % 26);
    }

    /** A step is undone as it was, whatever was set since, but for what leaves nothing to undo. */
    private static void undoAfterOtherSettings() {
        RotorBench x = new RotorBench();
        x.fill(0, 0);
        x.fill(1, 1);
        x.notch(0, 0, true);
        x.key(0);
        CHECK.is("both stepped", x.at(0, 0) + x.at(0, 1), 2);
        x.notch(0, 0, false);
        x.fill(1, NONE);
        x.rule(4);
        x.path(2);
        CHECK.is("the step can be undone", x.undo(), 0);
        CHECK.is("slot 0 is back", x.at(0, 0), 0);
        CHECK.is("slot 1 is back, though it is empty", x.at(0, 1), 0);
    }

    /** "IllegalArgumentException: most is not 1 .. 5000. IllegalStateException: a message is open." */
    private static void periodRange(int m) {
        BOUNDS.setting("period", BUSY.get(m), OPEN.get(m), 1, 5000, IAE, (x, v) -> x.period(v));
        BOUNDS.refuses("period in a full message", FULL.get(m), ISE, x -> x.period(5000));
        BOUNDS.refuses("period 0 in a full message", FULL.get(m), IAE, x -> x.period(0));
    }

    /** "if that is at most so many; else 0" */
    private static void periodJustAtMost(int m) {
        RotorBench x = Benches.bare(m);
        x.fill(3, 3);
        CHECK.is("one less", x.period(m - 1), 0);
        CHECK.is("just so many", x.period(m), m);
        CHECK.is("one more", x.period(m + 1), m);
        CHECK.is("1", x.period(1), 0);
        CHECK.is("5000", x.period(5000), m);
        x.pins(11, 61);
        CHECK.is("one less with 61 pins", x.period(61 * m - 1), 0);
        CHECK.is("just so many with 61 pins", x.period(61 * m), 61 * m);
        x.pins(11, 1);
        CHECK.is("one pin does not matter", x.period(m), m);
    }

    /** "How many steps it takes till all positions and places are as they are now": one, if nothing moves. */
    private static void periodOfNothing() {
        for (int rule = 0; rule < 5; rule++) {
            RotorBench x = new RotorBench();
            x.rule(rule);
            CHECK.is("nothing is there, most 1", x.period(1), 1);
            CHECK.is("nothing is there, most 5000", x.period(5000), 1);
            x.pins(0, 1);
            CHECK.is("one pin", x.period(1), 1);
            x.pins(0, 2);
            CHECK.is("two pins, most 1", x.period(1), 0);
            CHECK.is("two pins, most 2", x.period(2), 2);
        }
    }

    /** "most is not 1 .. 5000": a period that is as long, and a longer one. */
    private static void periodOfFiveThousand() {
        RotorBench x = new RotorBench();
        x.contacts(10);
        for (int s = 0; s < 4; s++) {
            x.fill(s, s);
            x.notch(s, 9, true);
        }
        CHECK.is("10000 steps are too many", x.period(5000), 0);
        // With a second notch the second wheel needs but five rounds of the first.
        x.notch(0, 4, true);
        CHECK.is("5000 steps", x.period(5000), 5000);
        CHECK.is("5000 steps are more than 4999", x.period(4999), 0);
        x.set(0, 2, 7);
        CHECK.is("5000 steps from elsewhere", x.period(5000), 5000);
        x.pins(0, 61);
        CHECK.is("61 times as many", x.period(5000), 0);
    }

    /** "else 0": also if it never is as it is now. */
    private static void periodOfWhatNeverComesAgain() {
        RotorBench x = new RotorBench();
        x.rule(2);
        x.fill(0, 0);
        x.notch(0, 1, true);
        CHECK.is("it goes to its notch and stays", x.period(5000), 0);
        CHECK.is("it is as it was", x.at(0, 0), 0);
        x.set(0, 0, 1);
        CHECK.is("it stays from the beginning", x.period(1), 1);
    }

    /** "(It is as it was then.)" */
    private static void periodLeavesItAsItWas(int m) {
        for (int which = 0; which < Probe.PROBES; which++) {
            for (int most : new int[] {1, 7, 5000}) {
                RotorBench x = Benches.busy(m);
                x.period(most);
                boolean same = Probe.look(x, which).equals(Probe.look(Benches.busy(m), which));
                CHECK.is("period(" + most + ") leaves it as it was, look " + which, same, true);
            }
        }
    }

    /** "How many signs come of themselves now, by image()." */
    private static void fixedFromNoneToAll(int m) {
        RotorBench x = Benches.bare(m);
        CHECK.is("all", x.fixed(), m);
        x.reflects(true);
        for (int c = 0; c < m / 2; c++) {
            x.plug(1, c, m - 1 - c);
            CHECK.is("two less for each pair", x.fixed(), m - 2 * (c + 1));
        }
        CHECK.is("none", x.fixed(), 0);
        x.reflects(false);
        CHECK.is("all again", x.fixed(), m);
        x.fill(0, 0);
        for (int c = 0; c < m - 1; c++) {
            x.wire(0, c, c + 1);
        }
        CHECK.is("none again", x.fixed(), 0);
    }

    /** fixed() is refused by nothing, and changes nothing. */
    private static void fixedWhileOpen(int m) {
        for (Benches.Maker maker : new Benches.Maker[] {BUSY.get(m), OPEN.get(m), FULL.get(m)}) {
            for (int which = 0; which < Probe.PROBES; which++) {
                RotorBench x = maker.make();
                int came = 0;
                for (int c = 0; c < m; c++) {
                    came += x.image(c) == c ? 1 : 0;
                }
                CHECK.is("fixed is by image()", x.fixed(), came);
                boolean same = Probe.look(x, which).equals(Probe.look(maker.make(), which));
                CHECK.is("fixed changes nothing, look " + which, same, true);
            }
        }
    }
}
