/** "What it is": an object answers as told up to its 512th call, however much its runs do. */
public final class LifeTest {
    private static final int CALLS = 512;
    private static final int MOST_STEPS = 5000;

    private LifeTest() {
    }

    public static void main(String[] args) {
        longestRunsUpTo512();
        refusedCallsUpTo512();
        dearestSteps();
        Check.finish();
    }

    /** POINTS, signs that are lost and skips, in as many of the longest runs as 512 calls leave. */
    private static void longestRunsUpTo512() {
        Check.sentence("at most 512 calls (the longest runs)");
        SignedCore x = new SignedCore();
        int made = 0;
        int[] words = {Check.op(Check.IOT, 7), Check.op(Check.IOT, 3), Check.op(Check.ADD, 20),
            Check.op(Check.SAD, 21), Check.op(Check.JMP, 0)};
        for (int i = 0; i < words.length; i++) {
            x.put(i, words[i]);
            made++;
        }
        x.put(20, 131071);
        x.put(21, 262143);
        made += 2;
        // SAD always skips the JMP, so behind it there must be another.
        x.put(5, Check.op(Check.JMP, 0));
        made++;
        int runs = CALLS - made - 9;
        for (int i = 0; i < runs; i++) {
            Check.due("run " + i, x.run(MOST_STEPS), SignedCore.DONE);
        }
        int rounds = runs * MOST_STEPS / 5;
        Check.due("STEPS", x.ran(0), MOST_STEPS);
        Check.due("STEPS of all runs", x.ran(7), runs * MOST_STEPS);
        Check.due("POINTS of the latest", x.ran(3), MOST_STEPS / 5);
        Check.due("skips of the latest", x.ran(4), MOST_STEPS / 5);
        Check.due("POINTS ever", x.points(), rounds);
        Check.due("not kept", x.point(64, 0), SignedCore.NONE);
        Check.due("signs kept", x.out(-1), 64);
        Check.due("signs lost", x.out(-2), rounds - 64);
        Check.due("the 512th", x.out(63), 0);
    }

    private static void refusedCallsUpTo512() {
        Check.sentence("at most 512 calls (the last one)");
        SignedCore x = new SignedCore();
        for (int i = 0; i < CALLS - 1; i++) {
            Check.due("call " + i, i % 2 == 0 ? x.put(-1, i) : x.put(0, i), i % 2 == 0 ? -1 : i < 2 ? 0 : i - 2);
        }
        Check.due("the 512th", x.core(0), CALLS - 3);
    }

    /** 32 XCTs one by the other, each at the end of a chain of 32 words, and a JMP with such a chain. */
    private static void dearestSteps() {
        Check.sentence("CHAIN, if 33 words would be asked for .. done so (32 of each, in every STEP)");
        SignedCore x = new SignedCore();
        int links = 32;
        int size = links + 1;
        for (int k = 0; k <= 32; k++) {
            int at = k * size;
            int[] words = new int[size];
            words[0] = Check.opI(k < 32 ? Check.XCT : Check.JMP, at + 1);
            for (int i = 1; i < links; i++) {
                words[i] = 4096 | (at + i + 1);
            }
            words[links] = k < 32 ? at + size : 0;
            loadAll(x, at, words);
        }
        for (int i = 1; i <= 20; i++) {
            Check.due("run", x.run(MOST_STEPS), SignedCore.DONE);
            Check.due("words that chains asked for", x.ran(2), MOST_STEPS * 33 * 32);
            Check.due("PC", x.told(2), 0);
            Check.due("STEPS", x.ran(7), i * MOST_STEPS);
        }
    }

    private static void loadAll(SignedCore x, int at, int[] words) {
        for (int i = 0; i < words.length; i += 3) {
            long three = ((long) words[i] << 36) | ((long) words[i + 1] << 18) | words[i + 2];
            Check.due("load", x.load(at + i, three, 3), 3);
        }
    }
}
