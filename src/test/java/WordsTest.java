/** Promises 15 to 17: value, word, reads. */
public final class WordsTest {
    private WordsTest() {
    }

    public static void main(String[] args) {
        values();
        words();
        reads();
        readsRefuses();
        Check.finish();
    }

    private static void values() {
        SignedCore x = new SignedCore();
        for (int w = 0; w <= 262143; w += 3) {
            x = w % 512 == 0 ? new SignedCore() : x;
            Check.due("value " + w, x.value(w), w <= 131071 ? w : w - 262143);
        }
        x = new SignedCore();
        int[][] rows = {{0, 0}, {1, 1}, {131071, 131071}, {131072, -131071}, {262142, -1}, {262143, 0},
            {-1, -1000000}, {262144, -1000000}, {Integer.MIN_VALUE, -1000000}, {Integer.MAX_VALUE, -1000000}};
        for (int[] row : rows) {
            Check.due("value " + row[0], x.value(row[0]), row[1]);
        }
    }

    private static void words() {
        SignedCore x = new SignedCore();
        int[][] rows = {{0, 0}, {1, 1}, {-1, 262142}, {131071, 131071}, {-131071, 131072}, {131072, -1},
            {-131072, -1}, {Integer.MIN_VALUE, -1}, {Integer.MAX_VALUE, -1}};
        for (int[] row : rows) {
            Check.due("word " + row[0], x.word(row[0]), row[1]);
        }
        for (int v = -131071; v <= 131071; v += 511) {
            x = new SignedCore();
            Check.due("value of word " + v, x.value(x.word(v)), v);
        }
    }

    private static boolean starred(int code) {
        switch (code) {
            case 1: case 2: case 3: case 4:
            case 8: case 9: case 10: case 11: case 12: case 13: case 14:
            case 16: case 17: case 18: case 19: case 20: case 21: case 22: case 23: case 24: case 25:
                return true;
            default:
                return false;
        }
    }

    private static boolean illegal(int code, int kind) {
        if (code == 27) {
            return kind == 0 || kind == 4 || kind == 8 || kind == 12;
        }
        return code == 0 || code == 5 || code == 6 || code == 15 || code == 30;
    }

    private static void reads() {
        SignedCore x = new SignedCore();
        for (int w = 0; w <= 262143; w += 5) {
            x = w % 64 == 0 ? new SignedCore() : x;
            int code = w / 8192;
            Check.due("code " + w, x.reads(w, 0), code);
            Check.due("I " + w, x.reads(w, 1), w / 4096 % 2);
            Check.due("Y " + w, x.reads(w, 2), w % 4096);
            Check.due("ones " + w, x.reads(w, 3), ones(w % 512));
            Check.due("address " + w, x.reads(w, 4), starred(code) ? 1 : 0);
            Check.due("illegal " + w, x.reads(w, 5), illegal(code, w / 512 % 16) ? 1 : 0);
        }
        x = new SignedCore();
        Check.due("CAL has no address", x.reads(Check.op(7, 9), 4), 0);
        Check.due("JDA has no address", x.reads(Check.opI(7, 9), 4), 0);
        Check.due("CAL is legal", x.reads(Check.op(7, 9), 5), 0);
        Check.due("262143 code", x.reads(262143, 0), 31);
        Check.due("262143 I", x.reads(262143, 1), 1);
        Check.due("262143 Y", x.reads(262143, 2), 4095);
        Check.due("262143 ones", x.reads(262143, 3), 9);
    }

    private static int ones(int bits) {
        int n = 0;
        for (int b = bits; b > 0; b /= 2) {
            n += b % 2;
        }
        return n;
    }

    private static void readsRefuses() {
        SignedCore x = new SignedCore();
        int[] bad = {-1, 262144, Integer.MIN_VALUE, Integer.MAX_VALUE};
        for (int w : bad) {
            for (int what = 0; what <= 5; what++) {
                Check.due("reads " + w + ", " + what, x.reads(w, what), -1);
            }
        }
        int[] badWhat = {-1, 6, Integer.MIN_VALUE, Integer.MAX_VALUE};
        for (int what : badWhat) {
            Check.due("what " + what, x.reads(5, what), -1);
        }
    }
}
