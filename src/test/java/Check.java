/** Counts and prints the answers that are not the ones that are due. */
final class Check {
    interface Call {
        void make();
    }

    private final String name;
    private int asked = 0;
    private int wrong = 0;

    Check(String name) {
        this.name = name;
    }

    void is(String what, long got, long due) {
        asked++;
        if (got != due) {
            tell(what + " answered " + got + ", due is " + due);
        }
    }

    void is(String what, boolean got, boolean due) {
        is(what, got ? 1 : 0, due ? 1 : 0);
    }

    void refuses(String what, Class<? extends RuntimeException> due, Call call) {
        asked++;
        try {
            call.make();
        } catch (RuntimeException e) {
            if (e.getClass() != due) {
                tell(what + " threw " + e.getClass().getName() + ", due is " + due.getName());
            }
            return;
        }
        tell(what + " threw nothing, due is " + due.getName());
    }

    void takes(String what, Call call) {
        asked++;
        try {
            call.make();
        } catch (RuntimeException e) {
            tell(what + " threw " + e.getClass().getName() + ", due is an answer");
        }
    }

    void tell(String text) {
        wrong++;
        System.out.println(name + ": " + text);
    }

    void end() {
        System.out.println(name + ": " + asked + " answers, " + wrong + " wrong");
        if (wrong != 0 || asked == 0) {
            System.exit(1);
        }
    }
}
