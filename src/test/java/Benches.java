/** Benches in the states at whose edges the document refuses something; none takes more than 160 calls. */
final class Benches {
    static final int[] CONTACTS = {10, 26, 32};
    static final int NONE = RotorBench.NONE;
    private static final int[] LENGTHS = {3, 1, 5, 2, 0, 7, 4, 6, 61, 0, 2, 3};

    interface Maker {
        RotorBench make();
    }

    private Benches() {
    }

    static RotorBench bare(int m) {
        RotorBench x = new RotorBench();
        x.contacts(m);
        return x;
    }

    /**
     * Something of everything, so that a change shows. Slots 2 and 4 are empty and wheels 1, 2, 4 and 6 are free; pin
     * wheels 4 and 9 are none, 8 has 61 pins; there are two messages, of four signs and of none.
     */
    static RotorBench busy(int m) {
        RotorBench x = bare(m);
        wheels(x, m);
        x.plug(0, 0, 9);
        x.plug(0, 2, 5);
        x.plug(1, 1, 8);
        x.plug(1, 3, 4);
        x.reflects(true);
        cage(x);
        x.rule(1);
        x.open();
        for (int i = 0; i < 4; i++) {
            x.key(2 * i + 1);
        }
        x.close();
        x.open();
        x.close();
        for (int i = 0; i < 3; i++) {
            x.key(i);
        }
        return x;
    }

    private static void wheels(RotorBench x, int m) {
        for (int w = 0; w < 8; w++) {
            for (int i = 0; i < 3; i++) {
                x.wire(w, (w + i) % m, (3 * w + 4 * i + 1) % m);
            }
            x.ring(w, (w + 2) % m);
            x.notch(w, w + 1, true);
            x.notch(w, m - 1, true);
        }
        x.fill(0, 3);
        x.fill(1, 5);
        x.fill(3, 0);
        x.fill(5, 7);
        for (int s = 0; s < 6; s++) {
            x.set(0, s, m - 1 - s);
        }
    }

    private static void cage(RotorBench x) {
        for (int k = 0; k < 12; k++) {
            if (LENGTHS[k] > 0) {
                x.pins(k, LENGTHS[k]);
                x.pin(k, LENGTHS[k] - 1, true);
                x.set(1, k, LENGTHS[k] / 2);
            }
        }
        for (int bar = 0; bar < 26; bar += 3) {
            x.lugs(bar, bar % 12, (bar + 5) % 12);
        }
        x.lugs(26, NONE, 8);
    }

    /** Busy, with message 2 open and two signs in it. */
    static RotorBench open(int m) {
        RotorBench x = busy(m);
        x.open();
        x.key(6);
        x.key(7);
        return x;
    }

    /** The only message is open and has as many signs. */
    static RotorBench openWith(int m, int signs) {
        RotorBench x = bare(m);
        x.fill(0, 0);
        x.wire(0, 0, 3);
        x.pins(0, 7);
        x.open();
        for (int i = 0; i < signs; i++) {
            x.key(i % m);
        }
        return x;
    }

    /** As many messages, each of one sign, none of them open. */
    static RotorBench messages(int m, int many) {
        RotorBench x = bare(m);
        x.fill(0, 0);
        x.wire(0, 0, 3);
        for (int i = 0; i < many; i++) {
            x.open();
            x.key(i % m);
            x.close();
        }
        return x;
    }
}
