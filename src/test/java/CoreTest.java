/** Promises 1 to 4 and 18: a new object, put, core, load, digest. */
public final class CoreTest {
    private CoreTest() {
    }

    public static void main(String[] args) {
        newObject();
        putAndCore();
        putRefuses();
        load();
        loadRefuses();
        digest();
        Check.finish();
    }

    private static void newObject() {
        SignedCore x = new SignedCore();
        for (int a = 0; a < 4096; a++) {
            x = a % 512 == 0 ? new SignedCore() : x;
            Check.due("new core(" + a + ")", x.core(a), 0);
        }
        x = new SignedCore();
        for (int what = 0; what <= 7; what++) {
            Check.due("new told(" + what + ")", x.told(what), 0);
            Check.due("new ran(" + what + ")", x.ran(what), what == 6 ? -9 : 0);
        }
        Check.due("new points", x.points(), 0);
        Check.due("new point", x.point(0, 0), -9);
        Check.due("new out(-1)", x.out(-1), 0);
        Check.due("new out(-2)", x.out(-2), 0);
        Check.due("new out(0)", x.out(0), -9);
        Check.due("new digest", x.digest(), 0);
        Check.due("new switches", x.switches(0, 0), 0);
        SignedCore y = new SignedCore();
        x.put(5, 5);
        Check.due("objects share nothing", y.core(5), 0);
    }

    private static void putAndCore() {
        SignedCore x = new SignedCore();
        int[] addresses = {0, 1, 2047, 2048, 4094, 4095};
        int[] words = {262143, 131072, 131071, 1, 0, 77};
        for (int i = 0; i < addresses.length; i++) {
            Check.due("put first", x.put(addresses[i], words[i]), 0);
        }
        for (int i = 0; i < addresses.length; i++) {
            Check.due("core", x.core(addresses[i]), words[i]);
            Check.due("put again", x.put(addresses[i], 9), words[i]);
            Check.due("core again", x.core(addresses[i]), 9);
        }
    }

    private static void putRefuses() {
        SignedCore x = new SignedCore();
        x.put(0, 3);
        x.put(4095, 4);
        int[] bad = {-1, 4096, 8191, Integer.MIN_VALUE, Integer.MAX_VALUE, -4096};
        for (int a : bad) {
            Check.due("put(" + a + ", 1)", x.put(a, 1), -1);
            Check.due("core(" + a + ")", x.core(a), -1);
        }
        int[] badWords = {-1, 262144, Integer.MIN_VALUE, Integer.MAX_VALUE};
        for (int w : badWords) {
            Check.due("put(0, " + w + ")", x.put(0, w), -1);
        }
        Check.due("core(0) after refusals", x.core(0), 3);
        Check.due("core(4095) after refusals", x.core(4095), 4);
    }

    private static long packed(long a, long b, long c) {
        return (a << 36) | (b << 18) | c;
    }

    private static void load() {
        SignedCore x = new SignedCore();
        Check.due("load 1", x.load(10, 262143L, 1), 1);
        Check.due("load 1: word", x.core(10), 262143);
        Check.due("load 1: next", x.core(11), 0);
        Check.due("load 2", x.load(20, packed(0, 5, 6), 2), 2);
        Check.due("load 2: first", x.core(20), 5);
        Check.due("load 2: last", x.core(21), 6);
        Check.due("load 3", x.load(30, packed(262143, 131072, 131071), 3), 3);
        Check.due("load 3: first", x.core(30), 262143);
        Check.due("load 3: second", x.core(31), 131072);
        Check.due("load 3: last", x.core(32), 131071);
        Check.due("load round", x.load(4094, packed(1, 2, 3), 3), 3);
        Check.due("load round 4094", x.core(4094), 1);
        Check.due("load round 4095", x.core(4095), 2);
        Check.due("load round 0", x.core(0), 3);
        Check.due("load zeros", x.load(30, 0L, 2), 2);
        Check.due("load zeros: first", x.core(30), 0);
        Check.due("load zeros: last", x.core(31), 0);
        Check.due("load zeros: behind", x.core(32), 131071);
    }

    private static void loadRefuses() {
        SignedCore x = new SignedCore();
        Check.due("address -1", x.load(-1, 1L, 1), -1);
        Check.due("address 4096", x.load(4096, 1L, 1), -1);
        Check.due("n 0", x.load(0, 0L, 0), -1);
        Check.due("n 4", x.load(0, 0L, 4), -1);
        Check.due("n -1", x.load(0, 0L, -1), -1);
        Check.due("n least", x.load(0, 0L, Integer.MIN_VALUE), -1);
        Check.due("n most", x.load(0, 0L, Integer.MAX_VALUE), -1);
        Check.due("bit 18 of 1", x.load(0, 1L << 18, 1), -1);
        Check.due("bit 36 of 2", x.load(0, 1L << 36, 2), -1);
        Check.due("bit 54 of 3", x.load(0, 1L << 54, 3), -1);
        Check.due("bit 63 of 3", x.load(0, Long.MIN_VALUE, 3), -1);
        Check.due("-1 of 1", x.load(0, -1L, 1), -1);
        Check.due("-1 of 3", x.load(0, -1L, 3), -1);
        Check.due("nothing changed", x.digest(), 0);
    }

    private static void digest() {
        SignedCore x = new SignedCore();
        x.put(4095, 7);
        Check.due("last word", x.digest(), 7);
        x.put(4094, 2);
        Check.due("last two words", x.digest(), 69);
        x.put(4088, 262143);
        int seventh = 31 * 31 * 31 * 31 * 31 * 31 * 31;
        Check.due("32 bits", x.digest(), 262143 * seventh + 69);
        int c = 0;
        x = new SignedCore();
        for (int a = 0; a < 400; a++) {
            x.put(a, (a * 7919 + 262143) & 262143);
        }
        for (int a = 0; a < 4096; a++) {
            c = 31 * c + (a < 400 ? (a * 7919 + 262143) & 262143 : 0);
        }
        Check.due("many words", x.digest(), c);
        Check.due("the same again", x.digest(), c);
    }
}
