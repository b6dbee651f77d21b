/** The five rules by which the machine steps. */
public final class StepsTest {
    private static final Check CHECK = new Check("StepsTest");

    public static void main(String[] args) {
        ruleZero();
        ruleOne();
        ruleTwo();
        ruleThree();
        ruleFour();
        noneFilled();
        oneFilled();
        roundTheEnd();
        lookedAtBeforeAnyStep();
        placesGoOn();
        CHECK.end();
    }

    /** Slots 1, 3 and 4 are filled by wheels 6, 2 and 0; the other slots are empty. */
    private static RotorBench three(int rule) {
        RotorBench x = new RotorBench();
        x.fill(1, 6);
        x.fill(3, 2);
        x.fill(4, 0);
        x.rule(rule);
        return x;
    }

    private static void notches(RotorBench x, boolean first, boolean second, boolean third) {
        x.notch(6, x.at(0, 1), first);
        x.notch(2, x.at(0, 3), second);
        x.notch(0, x.at(0, 4), third);
    }

    /** One step from 5, 5, 5 with these slots at their notches: which ones stepped. */
    private static void steps(int rule, String atNotch, String due) {
        RotorBench x = three(rule);
        x.set(0, 1, 5);
        x.set(0, 3, 5);
        x.set(0, 4, 5);
        notches(x, atNotch.charAt(0) == '1', atNotch.charAt(1) == '1', atNotch.charAt(2) == '1');
        x.key(0);
        String what = "rule " + rule + ", at notches " + atNotch + ", slot ";
        CHECK.is(what + "1", x.at(0, 1) - 5, due.charAt(0) - '0');
        CHECK.is(what + "3", x.at(0, 3) - 5, due.charAt(1) - '0');
        CHECK.is(what + "4", x.at(0, 4) - 5, due.charAt(2) - '0');
        CHECK.is(what + "0", x.at(0, 0), 0);
        CHECK.is(what + "2", x.at(0, 2), 0);
        CHECK.is(what + "5", x.at(0, 5), 0);
    }

    /** "0 the first filled slot steps; each other one does if all filled ones ahead of it are at their notches." */
    private static void ruleZero() {
        steps(0, "000", "100");
        steps(0, "100", "110");
        steps(0, "010", "100");
        steps(0, "001", "100");
        steps(0, "110", "111");
        steps(0, "101", "110");
        steps(0, "011", "100");
        steps(0, "111", "111");
    }

    /**
     * "1 the first does; each other one does if the filled one ahead of it is at its notch, or it is itself and is not
     * the last filled one."
     */
    private static void ruleOne() {
        steps(1, "000", "100");
        steps(1, "100", "110");
        steps(1, "010", "111");
        steps(1, "001", "100");
        steps(1, "110", "111");
        steps(1, "101", "110");
        steps(1, "011", "111");
        steps(1, "111", "111");
    }

    /** "2 each does if the next filled one (behind the last: the first) is not at its notch." */
    private static void ruleTwo() {
        steps(2, "000", "111");
        steps(2, "100", "110");
        steps(2, "010", "011");
        steps(2, "001", "101");
        steps(2, "110", "010");
        steps(2, "101", "100");
        steps(2, "011", "001");
        steps(2, "111", "000");
    }

    /** "3 slot s does if pin wheel s has its active pin up, or is none." */
    private static void ruleThree() {
        // Notches mean nothing here, and a pin wheel that is none lets its slot step.
        steps(3, "000", "111");
        steps(3, "111", "111");
        RotorBench x = three(3);
        x.pins(1, 2);
        x.pin(1, 0, true);
        x.pins(3, 1);
        x.pins(0, 1);
        x.pin(0, 0, true);
        x.key(0);
        CHECK.is("rule 3, pin up", x.at(0, 1), 1);
        CHECK.is("rule 3, pin down", x.at(0, 3), 0);
        CHECK.is("rule 3, none", x.at(0, 4), 1);
        CHECK.is("rule 3, an empty slot with its pin up", x.at(0, 0), 0);
        CHECK.is("rule 3, an empty slot with none", x.at(0, 5), 0);
        x.key(0);
        CHECK.is("rule 3, the next pin is down", x.at(0, 1), 1);
        x.key(0);
        CHECK.is("rule 3, the first pin again", x.at(0, 1), 2);
        CHECK.is("rule 3, none always", x.at(0, 4), 3);
    }

    /** "4 the last filled one does; each other one does if the last is not at its notch." */
    private static void ruleFour() {
        steps(4, "000", "111");
        steps(4, "100", "111");
        steps(4, "010", "111");
        steps(4, "001", "001");
        steps(4, "110", "111");
        steps(4, "111", "001");
    }

    private static void noneFilled() {
        for (int rule = 0; rule < 5; rule++) {
            RotorBench x = new RotorBench();
            x.rule(rule);
            x.pins(11, 3);
            x.key(0);
            for (int s = 0; s < 6; s++) {
                CHECK.is("rule " + rule + ", empty slot " + s, x.at(0, s), 0);
            }
            CHECK.is("rule " + rule + ", the pin wheel goes on", x.at(1, 11), 1);
        }
    }

    private static void oneFilled() {
        for (int rule = 0; rule < 5; rule++) {
            RotorBench x = new RotorBench();
            x.rule(rule);
            x.fill(5, 7);
            x.notch(7, 1, true);
            x.key(0);
            CHECK.is("rule " + rule + ", one slot", x.at(0, 5), 1);
            x.key(0);
            CHECK.is("rule " + rule + ", one slot at its notch", x.at(0, 5), rule == 2 ? 1 : 2);
        }
    }

    /** "A slot that steps goes to its position + 1, behind m - 1 to 0." */
    private static void roundTheEnd() {
        for (int m : new int[] {10, 26, 32}) {
            RotorBench x = new RotorBench();
            x.contacts(m);
            x.fill(0, 0);
            x.fill(1, 1);
            x.set(0, 0, m - 1);
            x.set(0, 1, m - 1);
            x.notch(0, m - 1, true);
            x.key(0);
            CHECK.is("behind " + (m - 1) + " is 0", x.at(0, 0), 0);
            CHECK.is("behind " + (m - 1) + " is 0 again", x.at(0, 1), 0);
            x.undo();
            CHECK.is("before 0 is " + (m - 1), x.at(0, 0), m - 1);
        }
    }

    /**
     * "TO STEP, by the RULE (0 at first): a filled slot is AT ITS NOTCH if its wheel has a notch at its position; all are
     * looked at before any steps."
     */
    private static void lookedAtBeforeAnyStep() {
        // The first goes onto its notch in this step; the second must not see that.
        RotorBench x = new RotorBench();
        x.fill(0, 0);
        x.fill(1, 1);
        x.notch(0, 1, true);
        x.key(0);
        CHECK.is("rule 0: not yet", x.at(0, 1), 0);
        x.key(0);
        CHECK.is("rule 0: now", x.at(0, 1), 1);
        // The pin is looked at before the pin wheel goes on.
        RotorBench y = new RotorBench();
        y.rule(3);
        y.fill(0, 0);
        y.pins(0, 2);
        y.pin(0, 1, true);
        y.key(0);
        CHECK.is("rule 3: not yet", y.at(0, 0), 0);
        y.key(0);
        CHECK.is("rule 3: now", y.at(0, 0), 1);
    }

    /** "Then each pin wheel's place goes on by one, round." */
    private static void placesGoOn() {
        for (int rule = 0; rule < 5; rule++) {
            RotorBench x = new RotorBench();
            x.rule(rule);
            for (int k = 0; k < 12; k++) {
                x.pins(k, k * 5 + 1);
            }
            x.pins(3, 0);
            for (int i = 0; i < 70; i++) {
                x.key(0);
            }
            for (int k = 0; k < 12; k++) {
                CHECK.is("rule " + rule + ", place " + k, x.at(1, k), k == 3 ? 0 : 70 % (k * 5 + 1));
            }
        }
    }
}
