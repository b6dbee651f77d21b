import java.util.NoSuchElementException;

/** The edges that 'Terms' names for steps, paths, the log and what is refused; the sentence stands above its test. */
public final class TermsBoundsTest {
    private static final Class<NoSuchElementException> NSE = NoSuchElementException.class;
    private static final Class<IllegalArgumentException> IAE = IllegalArgumentException.class;
    private static final Class<IllegalStateException> ISE = IllegalStateException.class;
    private static final int NONE = RotorBench.NONE;
    private static final Check CHECK = new Check("TermsBoundsTest");
    private static final Bounds BOUNDS = new Bounds(CHECK);

    public static void main(String[] args) {
        for (int m : Benches.CONTACTS) {
            contacts(m);
            wheels(m);
            slots(m);
            pinWheels(m);
            bars(m);
            rulesAndPaths(m);
        }
        lengths();
        activePin();
        stepWithNoneFilled();
        stepWithOneFilled();
        stepWithTwoFilled();
        stepWithAllFilled();
        firstAndLastBySlotNotByTime();
        ruleThreeOnEverySlot();
        ruleThreeWithNone();
        lookedAtBeforeAnySteps();
        positionsGoRound();
        placesGoRound();
        pathZeroWithNoneFilled();
        pathZeroGoesRound();
        pathZeroWithAllFilled();
        pathOneForThirtyTwoAlone();
        pathOneEveryBit();
        pathTwoGoesRound();
        noneHasNoActivePin();
        latestFortySteps();
        twentyMessages();
        sixtySigns();
        refusedWhileOpen();
        notRefusedWhileOpen();
        exceptionsInTheirOrder();
        fiveHundredAndTwelveCalls();
        CHECK.end();
    }

    /** "CONTACTS are 0 .. m - 1": in every call that takes one. */
    private static void contacts(int m) {
        Benches.Maker bare = () -> Benches.bare(m);
        contact(bare, m, "wire a", (x, c) -> x.wire(0, c, 1));
        contact(bare, m, "wire b", (x, c) -> x.wire(0, 1, c));
        contact(bare, m, "ring", (x, c) -> x.ring(0, c));
        contact(bare, m, "notch", (x, c) -> x.notch(0, c, true));
        for (int part = 0; part < 2; part++) {
            int one = part;
            contact(bare, m, "plug a", (x, c) -> x.plug(one, c, 1));
            contact(bare, m, "plug b", (x, c) -> x.plug(one, 1, c));
            contact(bare, m, "unplug", (x, c) -> x.unplug(one, c));
        }
        contact(bare, m, "set", (x, c) -> x.set(0, 0, c));
        contact(bare, m, "key", (x, c) -> x.key(c));
        contact(bare, m, "back", (x, c) -> x.back(c));
        contact(bare, m, "image", (x, c) -> x.image(c));
    }

    private static void contact(Benches.Maker bare, int m, String what, Bounds.Given given) {
        BOUNDS.range(what + " of " + m, bare, 0, m - 1, NSE, given);
    }

    /** "WHEELS are 0 .. 7": each with a wiring, a ring and notches of its own. */
    private static void wheels(int m) {
        Benches.Maker bare = () -> Benches.bare(m);
        BOUNDS.range("wheel to wire", bare, 0, 7, NSE, (x, w) -> x.wire(w, 0, 1));
        BOUNDS.range("wheel to ring", bare, 0, 7, NSE, (x, w) -> x.ring(w, 1));
        BOUNDS.range("wheel to notch", bare, 0, 7, NSE, (x, w) -> x.notch(w, 1, true));
        BOUNDS.range("wheel to fill with, or NONE", bare, NONE, 7, NSE, (x, w) -> x.fill(0, w));
        RotorBench x = Benches.bare(m);
        for (int w = 0; w < 8; w++) {
            CHECK.is("wiring of " + w, x.wire(w, 0, w + 1), w + 1);
            CHECK.is("ring of " + w, x.ring(w, w + 1), 0);
            CHECK.is("notch of " + w, x.notch(w, w + 1, true), true);
        }
        for (int w = 0; w < 8; w++) {
            CHECK.is("wiring of " + w + " stays", x.wire(w, 0, w + 1), 0);
            CHECK.is("ring of " + w + " stays", x.ring(w, 0), w + 1);
            CHECK.is("notch of " + w + " stays", x.notch(w, w + 1, true), false);
        }
    }

    /** "SLOTS are 0 .. 5": each with a wheel and a position of its own. */
    private static void slots(int m) {
        Benches.Maker bare = () -> Benches.bare(m);
        BOUNDS.range("slot to fill", bare, 0, 5, NSE, (x, s) -> x.fill(s, 0));
        BOUNDS.range("slot to empty", bare, 0, 5, NSE, (x, s) -> x.fill(s, NONE));
        BOUNDS.range("slot to set", bare, 0, 5, NSE, (x, s) -> x.set(0, s, 1));
        BOUNDS.range("slot to ask for", bare, 0, 5, NSE, (x, s) -> x.at(0, s));
        RotorBench x = Benches.bare(m);
        for (int s = 0; s < 6; s++) {
            CHECK.is("wheel in " + s, x.fill(s, s + 2), NONE);
            CHECK.is("position of " + s, x.set(0, s, m - 1 - s), 0);
        }
        for (int s = 0; s < 6; s++) {
            CHECK.is("wheel in " + s + " stays", x.fill(s, s + 2), s + 2);
            CHECK.is("position of " + s + " stays", x.at(0, s), m - 1 - s);
        }
    }

    /** "PIN WHEELS are 0 .. 11": each with pins and a place of its own. */
    private static void pinWheels(int m) {
        Benches.Maker some = () -> {
            RotorBench x = Benches.bare(m);
            x.pins(0, 2);
            x.pins(11, 2);
            return x;
        };
        BOUNDS.range("pin wheel to cut", some, 0, 11, NSE, (x, k) -> x.pins(k, 3));
        BOUNDS.range("pin wheel with the pin", some, 0, 11, NSE, (x, k) -> x.pin(k, 1, true));
        BOUNDS.range("pin wheel of the one lug, or NONE", some, NONE, 11, NSE, (x, k) -> x.lugs(0, k, 1));
        BOUNDS.range("pin wheel of the other lug, or NONE", some, NONE, 11, NSE, (x, k) -> x.lugs(0, 1, k));
        BOUNDS.range("pin wheel to set", some, 0, 11, NSE, (x, k) -> x.set(1, k, 1));
        BOUNDS.range("pin wheel to ask for", some, 0, 11, NSE, (x, k) -> x.at(1, k));
        RotorBench x = Benches.bare(m);
        for (int k = 0; k < 12; k++) {
            CHECK.is("length of " + k, x.pins(k, 61 - k), 0);
            CHECK.is("pin of " + k, x.pin(k, k, true), true);
            CHECK.is("place of " + k, x.set(1, k, 60 - k), 0);
        }
        for (int k = 0; k < 12; k++) {
            CHECK.is("pin of " + k + " stays", x.pin(k, k, true), false);
            CHECK.is("place of " + k + " stays", x.at(1, k), 60 - k);
        }
        for (int k = 0; k < 12; k++) {
            CHECK.is("length of " + k + " stays", x.pins(k, 0), 61 - k);
        }
    }

    /** "a length 0 .. 61 [..] as many PINS [..] and a place 0 .. length - 1": each length there is. */
    private static void lengths() {
        RotorBench x = new RotorBench();
        for (int length = 0; length <= 61; length++) {
            int beyond = length;
            CHECK.is("the length before " + length, x.pins(11, length), Math.max(0, length - 1));
            CHECK.refuses("pin " + length + " of so many", NSE, () -> x.pin(11, beyond, true));
            CHECK.refuses("place " + length + " of so many", NSE, () -> x.set(1, 11, beyond));
            if (length > 0) {
                CHECK.is("the last pin of " + length, x.pin(11, length - 1, true), true);
                CHECK.is("the last place of " + length, x.set(1, 11, length - 1), 0);
            }
        }
        CHECK.refuses("62 pins", IAE, () -> x.pins(11, 62));
        CHECK.refuses("-1 pins", IAE, () -> x.pins(11, -1));
        CHECK.is("61 pins are left", x.pins(11, 0), 61);
    }

    /** "its ACTIVE pin is that at its place": at the first place, and at the last. */
    private static void activePin() {
        for (int length : new int[] {1, 2, 61}) {
            RotorBench x = new RotorBench();
            x.path(2);
            x.lugs(0, 3, NONE);
            x.pins(3, length);
            for (int pin : new int[] {0, length - 1}) {
                x.pin(3, pin, true);
                for (int place = 0; place < length; place++) {
                    x.set(1, 3, place);
                    CHECK.is("pin " + pin + " of " + length + " is up, place " + place, x.image(0), place == pin ? 1 : 0);
                }
                x.pin(3, pin, false);
            }
        }
    }

    /** "BARS are 0 .. 26" */
    private static void bars(int m) {
        BOUNDS.range("bar", () -> Benches.bare(m), 0, 26, NSE, (x, bar) -> x.lugs(bar, 0, 1));
    }

    /** "there is no such [..] rule, path": five and three there are. */
    private static void rulesAndPaths(int m) {
        Benches.Maker bare = () -> Benches.bare(m);
        BOUNDS.range("rule", bare, 0, 4, NSE, (x, rule) -> x.rule(rule));
        BOUNDS.range("path", bare, 0, 2, NSE, (x, path) -> x.path(path));
        RotorBench x = Benches.bare(m);
        CHECK.is("the rule at first", x.rule(4), 0);
        CHECK.is("the path at first", x.path(2), 0);
    }

    /** Slots from .. from + many - 1 filled by wheels of the same numbers. */
    private static RotorBench filled(int m, int rule, int from, int many) {
        RotorBench x = Benches.bare(m);
        x.rule(rule);
        for (int s = from; s < from + many; s++) {
            x.fill(s, s);
        }
        return x;
    }

    /** Steps once; bit s of the answer: slot s went on by one. */
    private static int stepped(RotorBench x) {
        int[] before = new int[6];
        for (int s = 0; s < 6; s++) {
            before[s] = x.at(0, s);
        }
        x.key(0);
        int moved = 0;
        for (int s = 0; s < 6; s++) {
            int by = Math.floorMod(x.at(0, s) - before[s], x.count(0));
            CHECK.is("slot " + s + " goes on by one or not at all", by <= 1, true);
            moved |= by << s;
        }
        return moved;
    }

    /** "the first filled slot steps": there may be none. */
    private static void stepWithNoneFilled() {
        for (int m : Benches.CONTACTS) {
            for (int rule = 0; rule < 5; rule++) {
                RotorBench x = filled(m, rule, 0, 0);
                x.set(0, 2, m - 1);
                x.pins(5, 2);
                CHECK.is("rule " + rule + ": no slot steps", stepped(x), 0);
                CHECK.is("rule " + rule + ": the place goes on", x.at(1, 5), 1);
                CHECK.is("rule " + rule + ": it is a step", x.undo(), 0);
                CHECK.is("rule " + rule + ": and is undone", x.at(1, 5), 0);
            }
        }
    }

    /** The first filled slot is the last one, too, and under rule 2 the one behind itself. */
    private static void stepWithOneFilled() {
        for (int s = 0; s < 6; s++) {
            for (int rule = 0; rule < 5; rule++) {
                RotorBench x = filled(26, rule, s, 1);
                CHECK.is("rule " + rule + ", slot " + s, stepped(x), 1 << s);
                x.notch(s, 1, true);
                CHECK.is("rule " + rule + ", slot " + s + " at its notch", stepped(x), rule == 2 ? 0 : 1 << s);
            }
        }
    }

    private static void two(int rule, boolean first, boolean second, int due) {
        RotorBench x = filled(26, rule, 4, 2);
        x.notch(4, 0, first);
        x.notch(5, 0, second);
        CHECK.is("rule " + rule + ", two slots, notches " + first + ", " + second, stepped(x) >> 4, due);
    }

    /** "or it is itself and is not the last filled one": of two, the second is the last. */
    private static void stepWithTwoFilled() {
        int[][] due = {{1, 3, 1, 3}, {1, 3, 1, 3}, {3, 1, 2, 0}, {3, 3, 3, 3}, {3, 3, 2, 2}};
        for (int rule = 0; rule < 5; rule++) {
            two(rule, false, false, due[rule][0]);
            two(rule, true, false, due[rule][1]);
            two(rule, false, true, due[rule][2]);
            two(rule, true, true, due[rule][3]);
        }
    }

    /** All six, with every choice of slots at their notches, against the rules word by word. */
    private static void stepWithAllFilled() {
        for (int rule = 0; rule < 5; rule++) {
            for (int at = 0; at < 64; at++) {
                RotorBench x = filled(10, rule, 0, 6);
                for (int s = 0; s < 6; s++) {
                    x.notch(s, 0, (at >> s & 1) == 1);
                }
                CHECK.is("rule " + rule + ", six slots, notches " + at, stepped(x), dueOfSix(rule, at));
            }
        }
    }

    private static int dueOfSix(int rule, int at) {
        int due = 0;
        for (int s = 0; s < 6; s++) {
            boolean own = (at >> s & 1) == 1;
            boolean ahead = s > 0 && (at >> s - 1 & 1) == 1;
            boolean allAhead = (at & (1 << s) - 1) == (1 << s) - 1;
            boolean next = (at >> (s + 1) % 6 & 1) == 1;
            boolean last = (at >> 5 & 1) == 1;
            boolean[] does = {allAhead, s == 0 || ahead || own && s < 5, !next, true, s == 5 || !last};
            due |= does[rule] ? 1 << s : 0;
        }
        return due;
    }

    /** "the first filled slot", "the last filled one": by their numbers, whichever was filled first. */
    private static void firstAndLastBySlotNotByTime() {
        RotorBench x = new RotorBench();
        x.fill(5, 0);
        x.fill(3, 7);
        x.fill(0, 4);
        CHECK.is("slot 0 is the first", stepped(x), 1);
        x.fill(0, NONE);
        CHECK.is("slot 3 is the first then", stepped(x), 1 << 3);
        x.rule(4);
        x.notch(0, x.at(0, 5), true);
        CHECK.is("slot 5 is the last", stepped(x), 1 << 5);
        x.fill(5, NONE);
        CHECK.is("slot 3 is the last then", stepped(x), 1 << 3);
        x.fill(3, NONE);
        CHECK.is("there is none", stepped(x), 0);
    }

    /** "slot s does if pin wheel s has its active pin up" */
    private static void ruleThreeOnEverySlot() {
        for (int s = 0; s < 6; s++) {
            RotorBench x = filled(26, 3, 0, 6);
            for (int k = 0; k < 12; k++) {
                x.pins(k, 2);
                x.pin(k, 1, k == s);
            }
            CHECK.is("all pins are down", stepped(x), 0);
            CHECK.is("the pin of " + s + " is up", stepped(x), 1 << s);
            CHECK.is("and down again", stepped(x), 0);
        }
        RotorBench x = filled(26, 3, 0, 6);
        for (int s = 0; s < 6; s++) {
            x.pins(s, 1);
            x.pins(s + 6, 1);
            x.pin(s + 6, 0, true);
        }
        CHECK.is("pin wheels 6 to 11 step nothing", stepped(x), 0);
    }

    /** "or is none" */
    private static void ruleThreeWithNone() {
        RotorBench x = filled(26, 3, 0, 6);
        CHECK.is("all are none", stepped(x), 63);
        for (int s = 0; s < 6; s++) {
            x.pins(s, 1);
            CHECK.is("those behind " + s + " are none", stepped(x), 63 & -2 << s);
        }
        for (int s = 0; s < 6; s++) {
            x.pins(s, 0);
            CHECK.is("those up to " + s + " are none", stepped(x), (2 << s) - 1);
        }
    }

    /** "all are looked at before any steps" */
    private static void lookedAtBeforeAnySteps() {
        for (int rule : new int[] {0, 1, 2, 4}) {
            // Every wheel comes to its notch by this step, which must not show in it.
            RotorBench x = filled(26, rule, 0, 6);
            for (int s = 0; s < 6; s++) {
                x.notch(s, 1, true);
            }
            CHECK.is("rule " + rule + " before the notches", stepped(x), dueOfSix(rule, 0));
            // Every wheel leaves its notch by this step.
            RotorBench y = filled(26, rule, 0, 6);
            for (int s = 0; s < 6; s++) {
                y.notch(s, 0, true);
            }
            CHECK.is("rule " + rule + " at the notches", stepped(y), dueOfSix(rule, 63));
        }
    }

    /** "A slot that steps goes to its position + 1, behind m - 1 to 0." */
    private static void positionsGoRound() {
        for (int m : Benches.CONTACTS) {
            RotorBench x = filled(m, 3, 0, 6);
            for (int s = 0; s < 6; s++) {
                x.set(0, s, m - 2);
            }
            x.key(0);
            for (int s = 0; s < 6; s++) {
                CHECK.is("the last position of " + m, x.at(0, s), m - 1);
            }
            x.key(0);
            for (int s = 0; s < 6; s++) {
                CHECK.is("behind the last of " + m, x.at(0, s), 0);
            }
            CHECK.is("undone", x.undo(), 1);
            for (int s = 0; s < 6; s++) {
                CHECK.is("before the first of " + m, x.at(0, s), m - 1);
            }
        }
    }

    /** "Then each pin wheel's place goes on by one, round." */
    private static void placesGoRound() {
        for (int length : new int[] {1, 2, 3, 60, 61}) {
            RotorBench x = new RotorBench();
            for (int k = 0; k < 11; k++) {
                x.pins(k, length);
            }
            for (int k = 0; k < 11; k++) {
                x.set(1, k, length - 1);
            }
            x.key(0);
            for (int k = 0; k < 11; k++) {
                CHECK.is("behind the last place of " + length, x.at(1, k), 0);
            }
            CHECK.is("one that is none stays", x.at(1, 11), 0);
            x.key(0);
            CHECK.is("then on", x.at(1, 10), length == 1 ? 0 : 1);
            x.undo();
            x.undo();
            for (int k = 0; k < 11; k++) {
                CHECK.is("before the first place of " + length, x.at(1, k), length - 1);
            }
            CHECK.is("one that is none stays by undo", x.at(1, 11), 0);
        }
    }

    /** "through the filled slots": there may be none. */
    private static void pathZeroWithNoneFilled() {
        for (int m : Benches.CONTACTS) {
            RotorBench x = Benches.bare(m);
            for (int w = 0; w < 8; w++) {
                x.wire(w, 0, m - 1);
                x.ring(w, 1);
            }
            CHECK.is("wheels in no slot do nothing", x.fixed(), m);
            x.plug(1, 0, m - 1);
            CHECK.is("nor does the reflector", x.fixed(), m);
            x.reflects(true);
            CHECK.is("but if it reflects", x.image(0), m - 1);
            CHECK.is("both ways", x.image(m - 1), 0);
            CHECK.is("others stay", x.fixed(), m - 2);
        }
    }

    /** "from c to w(c + p - r) - p + r, all modulo m": c, p and r at both ends. */
    private static void pathZeroGoesRound() {
        for (int m : Benches.CONTACTS) {
            for (int p : new int[] {0, 1, m - 1}) {
                for (int r : new int[] {0, 1, m - 1}) {
                    RotorBench x = Benches.bare(m);
                    x.fill(5, 7);
                    for (int c = 0; c < m - 1; c++) {
                        x.wire(7, c, (3 * c + 5) % m);
                    }
                    x.ring(7, r);
                    x.set(0, 5, p);
                    for (int c = 0; c < m; c++) {
                        int due = Math.floorMod(3 * Math.floorMod(c + p - r, m) + 5 - p + r, m);
                        CHECK.is("m " + m + ", p " + p + ", r " + r + ", c " + c, x.image(c), due);
                    }
                }
            }
        }
    }

    /** "through the filled slots, 0 first [..] back through the slots, the last first": all six of them. */
    private static void pathZeroWithAllFilled() {
        for (int m : Benches.CONTACTS) {
            RotorBench x = filled(m, 0, 0, 6);
            // Wheel s leads from s to s + 1 and from s + 1 to s: in order they lead 0 to 6, and 6 to 5.
            for (int s = 0; s < 6; s++) {
                x.wire(s, s, s + 1);
            }
            CHECK.is("0 goes all the way", x.image(0), 6);
            CHECK.is("the last goes one down", x.image(6), 5);
            CHECK.is("the first goes one down", x.image(1), 0);
            x.plug(1, 6, m - 1);
            x.reflects(true);
            CHECK.is("0 is reflected past the wheels", x.image(0), m - 1);
            CHECK.is("and comes back all the way", x.image(m - 1), 0);
            x.unplug(1, 6);
            x.plug(1, 6, 0);
            CHECK.is("0 is reflected to 0, which came of 1", x.image(0), 1);
        }
    }

    /** "(for 32 contacts; for others nothing happens here)" */
    private static void pathOneForThirtyTwoAlone() {
        for (int m : Benches.CONTACTS) {
            RotorBench x = Benches.bare(m);
            x.path(1);
            for (int k = 0; k < 5; k++) {
                x.pins(k, 1);
                x.pin(k, 0, true);
            }
            CHECK.is("path 1 with " + m, x.fixed(), m == 32 ? 0 : m);
            CHECK.is("the first of " + m, x.image(0), m == 32 ? 31 : 0);
            CHECK.is("the last of " + m, x.image(m - 1), m == 32 ? 0 : m - 1);
        }
    }

    /** "bit k of c, 0 .. 4, is turned over if just one of the pin wheels k and k + 5 has its active pin up" */
    private static void pathOneEveryBit() {
        for (int up = 0; up < 1 << 12; up += 5) {
            RotorBench x = Benches.bare(32);
            x.path(1);
            for (int k = 0; k < 12; k++) {
                x.pins(k, 1);
                x.pin(k, 0, (up >> k & 1) == 1);
            }
            int turned = (up ^ up >> 5) & 31;
            for (int c : new int[] {0, 1, 21, 31}) {
                CHECK.is("pins " + up + ", sign " + c, x.image(c), c ^ turned);
            }
        }
    }

    /** "to n - c modulo m, n being how many bars have a lug at a pin wheel whose active pin is up": 0 to 27 of them. */
    private static void pathTwoGoesRound() {
        for (int m : Benches.CONTACTS) {
            RotorBench x = Benches.bare(m);
            x.path(2);
            x.pins(11, 1);
            x.pin(11, 0, true);
            for (int n = 0; n <= 27; n++) {
                for (int c : new int[] {0, 1, n % m, m - 2, m - 1}) {
                    CHECK.is(n + " bars, sign " + c + " of " + m, x.image(c), Math.floorMod(n - c, m));
                }
                if (n < 27) {
                    x.lugs(n, NONE, 11);
                }
            }
        }
    }

    /** "A pin wheel that is none has no active pin." */
    private static void noneHasNoActivePin() {
        RotorBench x = Benches.bare(32);
        for (int k = 0; k < 12; k++) {
            x.pins(k, 1);
            x.pin(k, 0, true);
            x.lugs(k, k, k);
        }
        x.path(2);
        CHECK.is("twelve bars", x.image(0), 12);
        for (int k = 0; k < 12; k++) {
            x.pins(k, 0);
            CHECK.is("bars when " + k + " is none", x.image(0), 11 - k);
        }
        x.path(1);
        CHECK.is("no bit is turned", x.fixed(), 32);
        x.pins(9, 1);
        x.pin(9, 0, true);
        CHECK.is("one of two is none", x.image(0), 16);
    }

    /** "The latest 40 steps can be undone." */
    private static void latestFortySteps() {
        for (int steps : new int[] {0, 1, 39, 40, 41, 79, 80, 81, 121}) {
            RotorBench x = filled(26, 0, 0, 1);
            for (int i = 0; i < steps; i++) {
                x.key(0);
            }
            int most = Math.min(steps, 40);
            CHECK.is(steps + " steps, so many can be undone", x.count(7), most);
            for (int i = 1; i <= most; i++) {
                CHECK.is(steps + " steps, " + i + " undone", x.undo(), most - i);
                CHECK.is(steps + " steps, " + i + " undone: position", x.at(0, 0), (steps - i) % 26);
            }
            CHECK.refuses(steps + " steps, one more", ISE, x::undo);
            CHECK.is(steps + " steps, where it ends", x.at(0, 0), (steps - most) % 26);
        }
    }

    /** "at most 20" */
    private static void twentyMessages() {
        for (int m : Benches.CONTACTS) {
            RotorBench x = Benches.messages(m, 19);
            CHECK.is("the 20th", x.open(), 19);
            CHECK.is("it has no signs", x.close(), 0);
            CHECK.refuses("the 21st", ISE, x::open);
        }
    }

    /** "of 60 signs each" */
    private static void sixtySigns() {
        for (int m : Benches.CONTACTS) {
            RotorBench x = Benches.openWith(m, 59);
            CHECK.takes("the 60th", () -> x.key(0));
            CHECK.refuses("the 61st", ISE, () -> x.key(0));
            CHECK.is("60 signs", x.close(), 60);
            CHECK.takes("outside of the message", () -> x.key(0));
            CHECK.is("another message", x.open(), 1);
            for (int i = 0; i < 60; i++) {
                CHECK.takes("its sign " + i, () -> x.key(0));
            }
            CHECK.refuses("its 61st", ISE, () -> x.key(0));
        }
    }

    /** "While one is OPEN, settings, back(), undo() and period() are refused." */
    private static void refusedWhileOpen() {
        Benches.Maker open = () -> Benches.open(26);
        BOUNDS.refuses("open: contacts", open, ISE, x -> x.contacts(26));
        BOUNDS.refuses("open: wire", open, ISE, x -> x.wire(0, 0, 1));
        BOUNDS.refuses("open: ring", open, ISE, x -> x.ring(0, 0));
        BOUNDS.refuses("open: notch", open, ISE, x -> x.notch(0, 0, true));
        BOUNDS.refuses("open: fill", open, ISE, x -> x.fill(2, 1));
        BOUNDS.refuses("open: plug", open, ISE, x -> x.plug(0, 6, 7));
        BOUNDS.refuses("open: unplug", open, ISE, x -> x.unplug(0, 0));
        BOUNDS.refuses("open: reflects", open, ISE, x -> x.reflects(false));
        BOUNDS.refuses("open: pins", open, ISE, x -> x.pins(0, 3));
        BOUNDS.refuses("open: pin", open, ISE, x -> x.pin(0, 0, true));
        BOUNDS.refuses("open: lugs", open, ISE, x -> x.lugs(1, 1, 1));
        BOUNDS.refuses("open: rule", open, ISE, x -> x.rule(0));
        BOUNDS.refuses("open: path", open, ISE, x -> x.path(1));
        BOUNDS.refuses("open: set", open, ISE, x -> x.set(0, 0, 0));
        BOUNDS.refuses("open: back", open, ISE, x -> x.back(0));
        BOUNDS.refuses("open: undo", open, ISE, RotorBench::undo);
        BOUNDS.refuses("open: period", open, ISE, x -> x.period(1));
        BOUNDS.refuses("open: open", open, ISE, RotorBench::open);
    }

    /** Of what is not told there nothing is refused. */
    private static void notRefusedWhileOpen() {
        RotorBench x = Benches.open(26);
        CHECK.takes("open: key", () -> x.key(0));
        CHECK.takes("open: image", () -> x.image(0));
        CHECK.takes("open: at", () -> x.at(0, 0));
        CHECK.takes("open: fixed", x::fixed);
        CHECK.takes("open: logged of it", () -> x.logged(2, 2, 1));
        CHECK.takes("open: logged of another", () -> x.logged(0, 3, 1));
        CHECK.takes("open: replay of another", () -> x.replay(0));
        CHECK.takes("open: replay of an empty one", () -> x.replay(1));
        for (int what = 0; what < 8; what++) {
            int one = what;
            CHECK.takes("open: count " + one, () -> x.count(one));
        }
        CHECK.is("open: close", x.close(), 3);
        CHECK.takes("closed: settings", () -> x.ring(0, 0));
        CHECK.takes("closed: back", () -> x.back(0));
        CHECK.takes("closed: undo", x::undo);
        CHECK.takes("closed: period", () -> x.period(1));
    }

    /** "NoSuchElementException [..] IllegalArgumentException, then IllegalStateException, as told. Such a call changes nothing." */
    private static void exceptionsInTheirOrder() {
        Benches.Maker open = () -> Benches.open(26);
        Benches.Maker full = () -> Benches.openWith(26, 60);
        BOUNDS.refuses("contacts: IAE, ISE", open, IAE, x -> x.contacts(27));
        BOUNDS.refuses("wire: NSE, ISE", open, NSE, x -> x.wire(8, 0, 1));
        BOUNDS.refuses("ring: NSE, ISE", open, NSE, x -> x.ring(0, 26));
        BOUNDS.refuses("notch: NSE, ISE", open, NSE, x -> x.notch(0, 26, true));
        BOUNDS.refuses("fill: NSE, ISE", open, NSE, x -> x.fill(6, 3));
        BOUNDS.refuses("plug: NSE, IAE, ISE", open, NSE, x -> x.plug(2, 0, 0));
        BOUNDS.refuses("plug: NSE, IAE, ISE", open, NSE, x -> x.plug(0, 26, 26));
        BOUNDS.refuses("plug: IAE, ISE", open, IAE, x -> x.plug(0, 0, 0));
        BOUNDS.refuses("unplug: NSE, ISE", open, NSE, x -> x.unplug(0, 26));
        BOUNDS.refuses("pins: NSE, IAE, ISE", open, NSE, x -> x.pins(12, 62));
        BOUNDS.refuses("pins: IAE, ISE", open, IAE, x -> x.pins(0, 62));
        BOUNDS.refuses("pin: NSE, ISE", open, NSE, x -> x.pin(0, 3, true));
        BOUNDS.refuses("lugs: NSE, ISE", open, NSE, x -> x.lugs(27, 0, 0));
        BOUNDS.refuses("rule: NSE, ISE", open, NSE, x -> x.rule(5));
        BOUNDS.refuses("path: NSE, ISE", open, NSE, x -> x.path(3));
        BOUNDS.refuses("set: NSE, ISE", open, NSE, x -> x.set(0, 0, 26));
        BOUNDS.refuses("key: NSE, ISE", full, NSE, x -> x.key(26));
        BOUNDS.refuses("back: NSE, ISE", open, NSE, x -> x.back(26));
        BOUNDS.refuses("period: IAE, ISE", open, IAE, x -> x.period(0));
        BOUNDS.refuses("logged: NSE, IAE", open, NSE, x -> x.logged(3, 0, 2));
        BOUNDS.refuses("logged: NSE, IAE", open, NSE, x -> x.logged(2, 2, 2));
        BOUNDS.refuses("replay: NSE", open, NSE, x -> x.replay(3));
    }

    /** "An object is used for at most 512 calls after it has been made" */
    private static void fiveHundredAndTwelveCalls() {
        RotorBench x = new RotorBench();
        x.fill(0, 0);
        x.pins(0, 61);
        for (int i = 0; i < 508; i++) {
            x.key(i % 26);
        }
        CHECK.is("call 511", x.at(0, 0), 508 % 26);
        CHECK.is("call 512", x.at(1, 0), 508 % 61);
    }
}
