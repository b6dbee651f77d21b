import java.util.Random;

/** Seeded runs of 512 calls, each answer held against the plain model's. */
public final class ModelTest {
    private static final int RUNS = 1500;
    private static final int CALLS = 512;
    private static final Check CHECK = new Check("ModelTest");

    private static final String[] SETTINGS = {
        "wire", "wire", "wire", "wire", "ring", "notch", "notch", "notch", "fill", "fill", "plug", "unplug", "reflects",
        "pins", "pin", "pin", "pin", "lugs", "lugs", "rule", "path", "set"};
    private static final String[] SIGNS = {
        "key", "key", "key", "key", "key", "back", "back", "image", "at", "at", "undo", "period", "fixed"};
    private static final String[] MESSAGES = {"open", "close", "close", "close", "logged", "replay", "replay", "count"};

    public static void main(String[] args) {
        for (int seed = 0; seed < RUNS; seed++) {
            run(seed);
        }
        CHECK.end();
    }

    private static void run(int seed) {
        Random random = new Random(seed);
        RotorBench x = new RotorBench();
        PlainModel model = new PlainModel();
        int settings = 1 + random.nextInt(8);
        int longMessages = random.nextInt(3);
        for (int i = 0; i < CALLS; i++) {
            String name = name(random, settings, i);
            if (longMessages == 0 && name.equals("close") && random.nextInt(40) != 0) {
                name = "key";
            }
            int[] given = given(random, name, model);
            String got = answer(() -> call(x, name(given), given));
            String due = answer(() -> model.call(name(given), given[1], given[2], given[3]));
            String text = "seed " + seed + ", call " + i + ": " + name + "(" + given[1] + ", " + given[2] + ", " + given[3] + ")";
            CHECK.is(text + " " + got + ", due is " + due, got.equals(due), true);
            if (!got.equals(due)) {
                return;
            }
        }
    }

    private interface Asked {
        int answer();
    }

    private static String answer(Asked asked) {
        try {
            return "answered " + asked.answer();
        } catch (RuntimeException e) {
            return "threw " + e.getClass().getSimpleName();
        }
    }

    private static final String[] NAMES = {
        "contacts", "wire", "ring", "notch", "fill", "plug", "unplug", "reflects", "pins", "pin", "lugs", "rule", "path",
        "set", "key", "back", "image", "at", "undo", "period", "fixed", "open", "close", "logged", "replay", "count"};

    private static String name(int[] given) {
        return NAMES[given[0]];
    }

    private static String name(Random random, int settings, int i) {
        if (random.nextInt(150) == 0 || i == 0) {
            return "contacts";
        }
        int kind = random.nextInt(16);
        String[] names = kind < settings || i < 80 ? SETTINGS : kind < 13 ? SIGNS : MESSAGES;
        return names[random.nextInt(names.length)];
    }

    /** Mostly what is there; now and then just beside it, or far off. */
    private static int some(Random random, int from, int to) {
        int kind = random.nextInt(120);
        if (kind == 0) {
            return from - 1;
        }
        if (kind == 1) {
            return to + 1;
        }
        if (kind == 2) {
            return random.nextInt();
        }
        return to < from ? from : from + random.nextInt(to - from + 1);
    }

    private static int[] given(Random random, String name, PlainModel model) {
        int[] given = {0, 0, 0, 0};
        for (int i = 0; i < NAMES.length; i++) {
            given[0] = NAMES[i].equals(name) ? i : given[0];
        }
        int last = model.m - 1;
        int k = some(random, 0, 11);
        int lastPin = k >= 0 && k < 12 ? model.pins[k].length - 1 : 0;
        int kind = some(random, 0, 1);
        int message = some(random, 0, model.messages.size() - 1);
        switch (name) {
            case "contacts": put(given, random.nextInt(8) == 0 ? some(random, 9, 33) : 10 + 16 * random.nextInt(2) + 6 * random.nextInt(2), 0, 0); break;
            case "wire": put(given, some(random, 0, 7), some(random, 0, last), some(random, 0, last)); break;
            case "ring": put(given, some(random, 0, 7), some(random, 0, last), 0); break;
            case "notch": put(given, some(random, 0, 7), some(random, 0, last), random.nextInt(4)); break;
            case "fill": put(given, some(random, 0, 5), some(random, -1, 7), 0); break;
            case "plug": put(given, kind, some(random, 0, last), some(random, 0, last)); break;
            case "unplug": put(given, kind, some(random, 0, last), 0); break;
            case "reflects": put(given, random.nextInt(2), 0, 0); break;
            case "pins": put(given, k, random.nextInt(3) == 0 ? some(random, 0, 61) : some(random, 0, 7), 0); break;
            case "pin": put(given, k, some(random, 0, lastPin), random.nextInt(4)); break;
            case "lugs": put(given, some(random, 0, 26), some(random, -1, 11), some(random, -1, 11)); break;
            case "rule": put(given, some(random, 0, 4), 0, 0); break;
            case "path": put(given, some(random, 0, 2), 0, 0); break;
            case "set": put(given, kind, kind == 0 ? some(random, 0, 5) : k, kind == 0 ? some(random, 0, last) : some(random, 0, lastPin)); break;
            case "key": case "back": case "image": put(given, some(random, 0, last), 0, 0); break;
            case "at": put(given, kind, kind == 0 ? some(random, 0, 5) : k, 0); break;
            case "period": put(given, random.nextInt(3) == 0 ? some(random, 1, 5000) : some(random, 1, 300), 0, 0); break;
            case "logged": put(given, message, some(random, 0, 5), some(random, 0, 1)); break;
            case "replay": put(given, message, 0, 0); break;
            case "count": put(given, some(random, 0, 7), 0, 0); break;
            default: break;
        }
        return given;
    }

    private static void put(int[] given, int a, int b, int c) {
        given[1] = a;
        given[2] = b;
        given[3] = c;
    }

    private static int call(RotorBench x, String name, int[] given) {
        int a = given[1];
        int b = given[2];
        int c = given[3];
        switch (name) {
            case "contacts": return x.contacts(a);
            case "wire": return x.wire(a, b, c);
            case "ring": return x.ring(a, b);
            case "notch": return x.notch(a, b, c != 0) ? 1 : 0;
            case "fill": return x.fill(a, b);
            case "plug": x.plug(a, b, c); return 0;
            case "unplug": return x.unplug(a, b);
            case "reflects": return x.reflects(a != 0) ? 1 : 0;
            case "pins": return x.pins(a, b);
            case "pin": return x.pin(a, b, c != 0) ? 1 : 0;
            case "lugs": x.lugs(a, b, c); return 0;
            case "rule": return x.rule(a);
            case "path": return x.path(a);
            case "set": return x.set(a, b, c);
            case "key": return x.key(a);
            case "back": return x.back(a);
            case "image": return x.image(a);
            case "at": return x.at(a, b);
            case "undo": return x.undo();
            case "period": return x.period(a);
            case "fixed": return x.fixed();
            case "open": return x.open();
            case "close": return x.close();
            case "logged": return x.logged(a, b, c);
            case "replay": return x.replay(a);
            default: return x.count(a);
        }
    }
}
