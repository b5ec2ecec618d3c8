import java.util.Random;

/** Runs of calls, at most 512 on an object, whose answers must be those of Model. */
public final class ModelTest {
    private static final int OBJECTS = 1500;
    private static final int CALLS = 440;
    private static final int[] EDGES = {Integer.MIN_VALUE, -1000000, -131072, -131071, -4096, -64, -10, -3, -2, -1,
        0, 1, 2, 3, 4, 5, 6, 7, 8, 62, 63, 64, 65, 99, 100, 101, 4094, 4095, 4096, 4097, 5000, 5001, 8191, 8192,
        131070, 131071, 131072, 131073, 262141, 262142, 262143, 262144, 524287, Integer.MAX_VALUE};
    private static final int[] EDGE_WORDS = {0, 1, 2, 131070, 131071, 131072, 131073, 262141, 262142, 262143};

    private final Random random;
    private final SignedCore x = new SignedCore();
    private final Model m = new Model();
    private final String name;
    private final int span;
    private final int[] codes;

    private ModelTest(int seed) {
        random = new Random(seed);
        name = "object " + seed;
        span = new int[] {4, 16, 64, 256, 4096}[random.nextInt(5)];
        codes = new int[1 + random.nextInt(32)];
        for (int i = 0; i < codes.length; i++) {
            codes[i] = random.nextInt(32);
        }
    }

    public static void main(String[] args) {
        for (int seed = 0; seed < OBJECTS && Check.allWell(); seed++) {
            new ModelTest(seed).play();
        }
        Check.finish();
    }

    private void play() {
        for (int i = 0; i < CALLS; i++) {
            call(random.nextInt(100));
        }
        compare();
    }

    private int edge() {
        return EDGES[random.nextInt(EDGES.length)];
    }

    private int address() {
        int a = random.nextInt(span);
        return random.nextInt(8) == 0 ? 4095 - a : a;
    }

    private int word() {
        switch (random.nextInt(8)) {
            case 0: return EDGE_WORDS[random.nextInt(EDGE_WORDS.length)];
            case 1: return random.nextInt(262144);
            case 2: return (random.nextInt(2) << 12) | address();
            case 3: return (29 << 13) | new int[] {3, 4, 7, 44, 45, 46, 45, 5}[random.nextInt(8)];
            case 4: return (random.nextInt(5) == 0 ? 24 << 13 | 4096 | 1 : (26 + random.nextInt(6)) << 13
                    | random.nextInt(8192));
            default: return codes[random.nextInt(codes.length)] << 13 | random.nextInt(2) << 12 | address();
        }
    }

    private int pick(int ordinary) {
        return random.nextInt(12) == 0 ? edge() : ordinary;
    }

    private void same(String call, int got, int want) {
        Check.due(name + ": " + call, got, want);
    }

    private void call(int kind) {
        if (kind < 40) {
            change(kind);
        } else if (kind < 65) {
            int n = pick(1 + random.nextInt(random.nextInt(10) == 0 ? 300 : 6));
            same("run " + n, x.run(n), m.run(n));
        } else {
            look(kind);
        }
    }

    private void change(int kind) {
        int a = pick(address());
        int w = pick(word());
        if (kind < 22) {
            same("put " + a + ", " + w, x.put(a, w), m.put(a, w));
        } else if (kind < 26) {
            int n = pick(1 + random.nextInt(3));
            long words = random.nextLong() >>> random.nextInt(64);
            same("load " + a + ", " + words + ", " + n, x.load(a, words, n), m.load(a, words, n));
        } else if (kind < 32) {
            int what = pick(random.nextInt(6));
            int v = what == 0 || what == 1 ? w : what == 2 ? a : what == 4 ? random.nextInt(65) : random.nextInt(3);
            same("set " + what + ", " + v, x.set(what, v), m.set(what, v));
        } else if (kind < 34) {
            int b = pick(random.nextInt(64));
            same("switches " + b + ", " + w, x.switches(b, w), m.switches(b, w));
        } else if (kind < 37) {
            int sign = pick(random.nextInt(64));
            same("type " + sign, x.type(sign), m.type(sign));
        } else {
            same("ask", x.ask(), m.ask());
        }
    }

    private void look(int kind) {
        int small = pick(random.nextInt(8));
        int i = pick(random.nextInt(70) - 3);
        int w = pick(word());
        if (kind < 75) {
            same("told " + small, x.told(small), m.told(small));
        } else if (kind < 85) {
            same("ran " + small, x.ran(small), m.ran(small));
        } else if (kind < 88) {
            same("core " + w, x.core(w), m.core(w));
        } else if (kind < 91) {
            same("point " + i + ", " + small % 2, x.point(i, small % 2), m.point(i, small % 2));
            same("points", x.points(), m.points());
        } else if (kind < 94) {
            same("out " + i, x.out(i), m.out(i));
        } else if (kind < 96) {
            int v = pick(w - 131071);
            same("value " + w, x.value(w), m.value(w));
            same("word " + v, x.word(v), m.word(v));
        } else if (kind < 99) {
            same("reads " + w + ", " + small, x.reads(w, small), m.reads(w, small));
        } else if (random.nextInt(4) == 0) {
            same("digest", x.digest(), m.digest());
        }
    }

    private void compare() {
        for (int what = 0; what <= 7; what++) {
            same("told " + what + " at the end", x.told(what), m.told(what));
            same("ran " + what + " at the end", x.ran(what), m.ran(what));
        }
        same("points at the end", x.points(), m.points());
        same("out at the end", x.out(-1), m.out(-1));
        same("lost at the end", x.out(-2), m.out(-2));
        same("digest at the end", x.digest(), m.digest());
    }
}
