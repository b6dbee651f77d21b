import java.util.ArrayList;
import java.util.HashMap;
import java.util.List;
import java.util.Map;
import java.util.TreeMap;
import java.util.function.IntFunction;

/** What is taken at the edges of a range and refused beside it, and that a refused call changes nothing. */
final class Bounds {
    interface Call {
        void make(RotorBench x);
    }

    interface Given {
        void call(RotorBench x, int value);
    }

    private final Check check;
    // Probes of makers without any further call, as many refused calls are held against the same ones.
    private final Map<Benches.Maker, List<List<String>>> untouched = new HashMap<>();

    Bounds(Check check) {
        this.check = check;
    }

    void takes(String what, Benches.Maker maker, Call call) {
        RotorBench x = maker.make();
        check.takes(what, () -> call.make(x));
    }

    void refuses(String what, Benches.Maker maker, Class<? extends RuntimeException> due, Call call) {
        List<List<String>> before = untouched.computeIfAbsent(maker, Bounds::looks);
        for (int which = 0; which < Probe.PROBES; which++) {
            RotorBench x = maker.make();
            check.refuses(what, due, () -> call.make(x));
            List<String> after = Probe.look(x, which);
            check.is(what + " changes nothing, but " + firstOther(before.get(which), after),
                    after.equals(before.get(which)), true);
        }
    }

    private static List<List<String>> looks(Benches.Maker maker) {
        List<List<String>> looks = new ArrayList<>();
        for (int which = 0; which < Probe.PROBES; which++) {
            looks.add(Probe.look(maker.make(), which));
        }
        return looks;
    }

    private static String firstOther(List<String> before, List<String> after) {
        for (int i = 0; i < before.size() && i < after.size(); i++) {
            if (!before.get(i).equals(after.get(i))) {
                return after.get(i) + " where it would have been: " + before.get(i);
            }
        }
        return "one look is longer";
    }

    /** The lowest and the highest value are taken; those beside them, and the farthest ints, are not. */
    void range(String what, Benches.Maker maker, int lowest, int highest, Class<? extends RuntimeException> due, Given given) {
        takes(what + " " + lowest, maker, x -> given.call(x, lowest));
        takes(what + " " + highest, maker, x -> given.call(x, highest));
        outside(what, maker, lowest, highest, due, given);
    }

    void outside(String what, Benches.Maker maker, int lowest, int highest, Class<? extends RuntimeException> due, Given given) {
        for (int wrong : new int[] {lowest - 1, highest + 1, Integer.MIN_VALUE, Integer.MAX_VALUE}) {
            refuses(what + " " + wrong, maker, due, x -> given.call(x, wrong));
        }
    }

    /** A setting's range; while a message is open, wrong values go first and right ones are refused by the state. */
    void setting(String what, Benches.Maker closed, Benches.Maker open, int lowest, int highest,
            Class<? extends RuntimeException> due, Given given) {
        range(what, closed, lowest, highest, due, given);
        refuses("open: " + what + " " + lowest, open, IllegalStateException.class, x -> given.call(x, lowest));
        refuses("open: " + what + " " + highest, open, IllegalStateException.class, x -> given.call(x, highest));
        outside("open: " + what, open, lowest, highest, due, given);
    }

    /** One maker for each number of contacts, each the same object at every call, so that its probes can be kept. */
    static Map<Integer, Benches.Maker> forEach(IntFunction<RotorBench> maker) {
        Map<Integer, Benches.Maker> makers = new TreeMap<>();
        for (int m : Benches.CONTACTS) {
            makers.put(m, () -> maker.apply(m));
        }
        return makers;
    }
}
