import java.util.LinkedHashMap;
import java.util.Map;
import java.util.NoSuchElementException;

/**
 * A call changes what the document tells and nothing else. On a bench that holds something of everything, each setting is
 * made and taken back, steps are undone and questions asked; then every other thing must be as it was set.
 */
public final class NothingElseTest {
    private static final int NONE = RotorBench.NONE;
    private static final Check CHECK = new Check("NothingElseTest");

    private interface Look {
        void at(RotorBench x, String after);
    }

    public static void main(String[] args) {
        for (int m : Benches.CONTACTS) {
            Map<String, Bounds.Call> calls = new LinkedHashMap<>();
            settings(calls, m);
            signsAndMessages(calls, m);
            hold(m, calls, NothingElseTest::undoings);
            movers(calls, m);
            hold(m, calls, NothingElseTest::wheels);
            hold(m, calls, NothingElseTest::wirings);
            hold(m, calls, NothingElseTest::slots);
            hold(m, calls, NothingElseTest::pairs);
            hold(m, calls, NothingElseTest::choices);
            hold(m, calls, NothingElseTest::pinWheels);
            hold(m, calls, NothingElseTest::lugsOfPinWheels);
            hold(m, calls, NothingElseTest::lugsOfBars);
            hold(m, calls, (x, after) -> stand(x, after, 3));
            hold(m, calls, NothingElseTest::messages);
        }
        CHECK.end();
    }

    private static void hold(int m, Map<String, Bounds.Call> calls, Look look) {
        for (Map.Entry<String, Bounds.Call> one : calls.entrySet()) {
            RotorBench x = full(m);
            one.getValue().make(x);
            look.at(x, one.getKey() + ", " + m + " contacts: ");
        }
    }

    /** All that is set here is what the looks below expect. */
    private static RotorBench full(int m) {
        RotorBench x = Benches.bare(m);
        for (int w = 0; w < 8; w++) {
            x.wire(w, 0, w + 1);
            x.ring(w, w + 1);
            x.notch(w, w + 2, true);
        }
        for (int s = 0; s < 6; s++) {
            x.fill(s, s < 4 ? 7 - s : NONE);
            x.set(0, s, s + 4);
        }
        x.plug(0, 0, 9);
        x.plug(0, 2, 5);
        x.plug(1, 1, 8);
        x.plug(1, 3, 4);
        x.reflects(true);
        for (int k = 0; k < 11; k++) {
            x.pins(k, k + 2);
            x.pin(k, k + 1, true);
            x.set(1, k, k);
        }
        for (int bar = 0; bar < 27; bar++) {
            x.lugs(bar, bar % 2 == 0 ? bar % 11 : NONE, bar % 2 == 0 ? NONE : bar % 11);
        }
        x.rule(4);
        x.path(2);
        x.open();
        x.key(1);
        x.key(2);
        x.key(3);
        x.close();
        return x;
    }

    private static void settings(Map<String, Bounds.Call> calls, int m) {
        calls.put("nothing", x -> { });
        calls.put("wire", x -> x.wire(3, x.wire(3, 0, m - 1), m - 1));
        calls.put("ring", x -> x.ring(3, x.ring(3, m - 1)));
        calls.put("notch", x -> {
            x.notch(3, 5, false);
            x.notch(3, 5, true);
        });
        calls.put("fill", x -> x.fill(1, x.fill(1, NONE)));
        calls.put("fill an empty slot", x -> {
            x.fill(4, 0);
            x.fill(4, NONE);
        });
        calls.put("plug", x -> {
            x.plug(0, 6, 7);
            x.unplug(0, 7);
        });
        calls.put("unplug", x -> x.plug(1, 8, x.unplug(1, 8)));
        calls.put("unplug what is in no pair", x -> x.unplug(0, 3));
        calls.put("reflects", x -> {
            x.reflects(false);
            x.reflects(true);
        });
        calls.put("pin", x -> {
            x.pin(10, 0, true);
            x.pin(10, 0, false);
        });
        calls.put("lugs", x -> {
            x.lugs(26, NONE, NONE);
            x.lugs(26, 4, NONE);
        });
        calls.put("rule", x -> x.rule(x.rule(0)));
        calls.put("path", x -> x.path(x.path(0)));
    }

    private static void signsAndMessages(Map<String, Bounds.Call> calls, int m) {
        calls.put("key and undo", x -> {
            x.key(0);
            x.undo();
        });
        calls.put("back and undo", x -> {
            x.back(m - 1);
            x.undo();
        });
        calls.put("image", x -> x.image(m - 1));
        calls.put("at", x -> x.at(1, x.at(0, 0)));
        calls.put("period", x -> x.period(5000));
        calls.put("fixed", x -> x.fixed());
        calls.put("open and close", x -> {
            x.open();
            x.close();
        });
        calls.put("logged", x -> x.logged(0, 1, 1));
        calls.put("replay", x -> x.replay(0));
        calls.put("replay while open", x -> {
            x.open();
            x.replay(0);
            x.close();
        });
        for (int what = 0; what < 8; what++) {
            int one = what;
            calls.put("count " + what, x -> x.count(one));
        }
    }

    /** After these nothing can be undone. */
    private static void movers(Map<String, Bounds.Call> calls, int m) {
        calls.put("set a position", x -> x.set(0, 2, x.set(0, 2, m - 1)));
        calls.put("set an empty slot's position", x -> x.set(0, 5, x.set(0, 5, 0)));
        calls.put("set a place", x -> x.set(1, 10, x.set(1, 10, 11)));
        calls.put("pins", x -> {
            x.pins(11, 61);
            x.pins(11, 0);
        });
    }

    private static void wheels(RotorBench x, String after) {
        for (int w = 0; w < 8; w++) {
            CHECK.is(after + "ring of " + w, x.ring(w, 0), w + 1);
            for (int p = 0; p < 10; p++) {
                CHECK.is(after + "notch " + p + " of " + w, x.notch(w, p, false), p == w + 2);
            }
        }
    }

    private static void wirings(RotorBench x, String after) {
        int m = x.count(0);
        for (int w = 0; w < 8; w++) {
            for (int c = 0; c < m; c++) {
                int leadsTo = c == 0 ? w + 1 : c == w + 1 ? 0 : c;
                CHECK.is(after + "wiring of " + w + " from " + c, x.wire(w, c, leadsTo), c);
            }
        }
    }

    private static void slots(RotorBench x, String after) {
        for (int s = 0; s < 6; s++) {
            CHECK.is(after + "wheel in " + s, x.fill(s, NONE), s < 4 ? 7 - s : NONE);
        }
    }

    private static void pairs(RotorBench x, String after) {
        CHECK.is(after + "pairs of the plugboard", x.count(2), 2);
        CHECK.is(after + "pairs of the reflector", x.count(3), 2);
        CHECK.is(after + "pair of 0", x.unplug(0, 0), 9);
        CHECK.is(after + "pair of 5", x.unplug(0, 5), 2);
        CHECK.is(after + "pair of 8 in the reflector", x.unplug(1, 8), 1);
        CHECK.is(after + "pair of 3 in the reflector", x.unplug(1, 3), 4);
    }

    private static void choices(RotorBench x, String after) {
        CHECK.is(after + "reflects", x.reflects(true), false);
        CHECK.is(after + "rule", x.rule(0), 4);
        CHECK.is(after + "path", x.path(0), 2);
        CHECK.is(after + "no message is open", x.count(6), 0);
    }

    private static void pinWheels(RotorBench x, String after) {
        for (int k = 0; k < 11; k++) {
            for (int pin = 0; pin < k + 2; pin++) {
                CHECK.is(after + "pin " + pin + " of " + k, x.pin(k, pin, false), pin == k + 1);
            }
        }
        for (int k = 0; k < 12; k++) {
            CHECK.is(after + "length of " + k, x.pins(k, 0), k < 11 ? k + 2 : 0);
        }
    }

    /** Brings each pin that is up to its place, so that all bars are taken. */
    private static void activate(RotorBench x) {
        for (int k = 0; k < 11; k++) {
            x.set(1, k, k + 1);
        }
    }

    /** Of 0, which is 9 behind the plugboard, comes n - 9, when n bars are taken; the plugboard exchanges that, too. */
    private static void taken(RotorBench x, String after, int n) {
        int inside = Math.floorMod(n - 9, x.count(0));
        int[] plugboard = {9, 1, 5, 3, 4, 2, 6, 7, 8, 0};
        CHECK.is(after + n + " bars", x.image(0), inside < 10 ? plugboard[inside] : inside);
    }

    private static void lugsOfPinWheels(RotorBench x, String after) {
        activate(x);
        int n = 27;
        for (int k = 0; k < 11; k++) {
            taken(x, after, n);
            x.pin(k, k + 1, false);
            n -= k < 5 ? 3 : 2;
        }
        taken(x, after, 0);
    }

    private static void lugsOfBars(RotorBench x, String after) {
        activate(x);
        for (int bar = 0; bar < 27; bar++) {
            taken(x, after, 27 - bar);
            x.lugs(bar, NONE, NONE);
        }
        taken(x, after, 0);
    }

    private static void stand(RotorBench x, String after, int steps) {
        int m = x.count(0);
        for (int s = 0; s < 6; s++) {
            CHECK.is(after + "position of " + s, x.at(0, s), s < 4 ? (s + 4 + steps) % m : s + 4);
        }
        for (int k = 0; k < 12; k++) {
            CHECK.is(after + "place of " + k, x.at(1, k), k < 11 ? (k + steps) % (k + 2) : 0);
        }
    }

    private static void undoings(RotorBench x, String after) {
        for (int steps = 2; steps >= 0; steps--) {
            CHECK.is(after + "steps to undo", x.count(7), steps + 1);
            CHECK.is(after + "undo", x.undo(), steps);
            stand(x, after, steps);
        }
        CHECK.refuses(after + "nothing more to undo", IllegalStateException.class, x::undo);
    }

    private static void messages(RotorBench x, String after) {
        int m = x.count(0);
        // With all bars taken 1 becomes 26; with none 2, which is 5 inside, becomes -5; with three 3 becomes 0.
        int[] came = m == 10 ? new int[] {6, 2, 9} : m == 26 ? new int[] {9, 21, 9} : new int[] {26, 27, 9};
        for (int k = 0; k < 3; k++) {
            CHECK.is(after + "keyed " + k, x.logged(0, k, 0), k + 1);
            CHECK.is(after + "came " + k, x.logged(0, k, 1), came[k]);
        }
        CHECK.refuses(after + "no fourth sign", NoSuchElementException.class, () -> x.logged(0, 3, 0));
        CHECK.is(after + "replay", x.replay(0), NONE);
    }
}
