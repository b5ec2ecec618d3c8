/** Promise 10: SKP, SHIFT, LAW, OPR, and codes that are ILLEGAL. */
public final class GroupsTest {
    private static final int MZ = Check.MINUS_ZERO;
    private static final int SIGN = Check.SIGN;

    private GroupsTest() {
    }

    public static void main(String[] args) {
        skips();
        skipsOverflow();
        skipsSwitchesAndFlags();
        shifts();
        shiftsOften();
        illegalShifts();
        law();
        operate();
        operateInOrder();
        flags();
        illegal();
        Check.finish();
    }

    private static void skip(int y, int ac, int io, boolean holds) {
        SignedCore x = Check.machine(ac, io, Check.op(Check.SKP, y));
        Check.due("SKP runs", x.run(1), 0);
        Check.state("SKP " + y, x, ac, io, holds ? 102 : 101, 0);
        Check.due("SKP " + y + ": counted", x.ran(4), holds ? 1 : 0);
        x = Check.machine(ac, io, Check.opI(Check.SKP, y));
        x.run(1);
        Check.state("SKP I " + y, x, ac, io, holds ? 101 : 102, 0);
        Check.due("SKP I " + y + ": counted", x.ran(4), holds ? 0 : 1);
        Check.due("SKP I " + y + ": asked for", x.ran(2), 0);
    }

    private static void skips() {
        skip(0, 0, 0, false);
        skip(2048, 0, 0, false);
        skip(64, 0, 1, true);
        skip(64, MZ, 0, false);
        skip(64, 1, 0, false);
        skip(128, 0, MZ, true);
        skip(128, 131071, MZ, true);
        skip(128, SIGN, 0, false);
        skip(256, SIGN, 0, true);
        skip(256, MZ, 0, true);
        skip(256, 131071, MZ, false);
        skip(128 + 256, MZ, MZ, true);
        skip(128 + 256, 0, 0, true);
        skip(1024, MZ, 131071, true);
        skip(1024, 0, SIGN, false);
        skip(64 + 1024, 5, SIGN, false);
        skip(64 + 1024, 5, 0, true);
        skip(64 + 256, MZ, 0, true);
        skip(512, 1, SIGN, true);
    }

    private static void skipsOverflow() {
        SignedCore x = Check.machine(0, 0, Check.op(Check.SKP, 512));
        x.set(3, 1);
        x.run(1);
        Check.state("OV 1", x, 0, 0, 101, 0);
        x = Check.machine(0, 0, Check.opI(Check.SKP, 512));
        x.set(3, 1);
        x.run(1);
        Check.state("OV 1, I", x, 0, 0, 102, 0);
        x = Check.machine(0, 0, Check.op(Check.SKP, 512 + 64));
        x.set(3, 1);
        x.run(1);
        Check.state("OV 1, AC 0: OV becomes 0 all the same", x, 0, 0, 102, 0);
        x = Check.machine(0, 0, Check.op(Check.SKP, 64 + 128 + 1024));
        x.set(3, 1);
        x.run(1);
        Check.state("OV is not asked for and stays", x, 0, 0, 102, 1);
    }

    private static boolean off(int bits, int n) {
        if (n == 7) {
            return bits == 0;
        }
        return n != 0 && bits / (1 << (n - 1)) % 2 == 0;
    }

    private static void skipsSwitchesAndFlags() {
        for (int bits = 0; bits <= 63; bits++) {
            for (int n = 0; n <= 7; n++) {
                SignedCore x = Check.machine(1, SIGN, Check.op(Check.SKP, n * 8));
                x.switches(bits, 0);
                x.set(4, 63 - bits);
                x.run(1);
                Check.due("SWITCH " + n + " of " + bits, x.told(2), off(bits, n) ? 102 : 101);
                x = Check.machine(1, SIGN, Check.op(Check.SKP, n));
                x.switches(63 - bits, 0);
                x.set(4, bits);
                x.run(1);
                Check.due("FLAG " + n + " of " + bits, x.told(2), off(bits, n) ? 102 : 101);
                Check.due("FLAGS stay", x.told(4), bits);
            }
        }
        for (int n = 1; n <= 6; n++) {
            flagAlone(n, 0, 0);
            flagAlone(n, 262143, 262143);
        }
        SignedCore x = Check.machine(1, SIGN, Check.op(Check.SKP, 8 + 2));
        x.switches(1, 0);
        x.run(1);
        Check.due("SWITCH 1 is 1, FLAG 2 is 0", x.told(2), 102);
    }

    /** A FLAG or SWITCH that is 1 does not skip, whatever AC, IO and OV are; OV stays. */
    private static void flagAlone(int n, int ac, int io) {
        int[] ys = {n, n * 8, n + n * 8};
        for (int y : ys) {
            for (int ov = 0; ov <= 1; ov++) {
                SignedCore x = Check.machine(ac, io, Check.op(Check.SKP, y));
                x.set(3, ov);
                x.set(4, 63);
                x.switches(63, 0);
                x.run(1);
                Check.state("SKP " + y + ", all are 1", x, ac, io, 101, ov);
            }
        }
    }

    /** One place by text: the way that kind tells, of a row of bits. */
    private static String oncePlaced(String bits, int way) {
        int n = bits.length();
        switch (way) {
            case 0: return bits.substring(1) + bits.charAt(0);
            case 1: return bits.charAt(0) + bits.substring(2) + bits.charAt(0);
            case 2: return bits.charAt(n - 1) + bits.substring(0, n - 1);
            default: return "" + bits.charAt(0) + bits.charAt(0) + bits.substring(1, n - 1);
        }
    }

    private static String bitsOf(int w) {
        String text = Integer.toBinaryString(w);
        return "0".repeat(18 - text.length()) + text;
    }

    private static String placed(String bits, int way, int times) {
        String result = bits;
        for (int i = 0; i < times; i++) {
            result = oncePlaced(result, way);
        }
        return result;
    }

    private static void shifted(int kind, int nine, int ac, int io) {
        int times = Integer.bitCount(nine);
        int way = kind / 4;
        String a = bitsOf(ac);
        String i = bitsOf(io);
        if (kind % 4 == 1) {
            a = placed(a, way, times);
        } else if (kind % 4 == 2) {
            i = placed(i, way, times);
        } else {
            String both = placed(a + i, way, times);
            a = both.substring(0, 18);
            i = both.substring(18);
        }
        SignedCore x = Check.machine(ac, io, Check.op(Check.SHIFT, kind * 512 + nine));
        String what = "SHIFT " + kind + " by " + nine + " of " + ac + ", " + io;
        Check.due(what, x.run(1), 0);
        Check.state(what, x, Integer.parseInt(a, 2), Integer.parseInt(i, 2), 101, 0);
        Check.due(what + ": asked for", x.ran(2), 0);
    }

    private static void shifts() {
        int[] kinds = {1, 2, 3, 5, 6, 7, 9, 10, 11, 13, 14, 15};
        int[] nines = {0, 1, 2, 256, 5, 259, 7, 511, 341};
        int[] words = {0, 1, 2, SIGN, SIGN + 1, 65536, MZ, 131071, 0x2AAAA, 0x15555, 0x30003, 262142};
        for (int kind : kinds) {
            for (int nine : nines) {
                for (int ac : words) {
                    for (int io : words) {
                        shifted(kind, nine, ac, io);
                    }
                }
            }
        }
    }

    /** What the document says, by hand. */
    private static void shiftsOften() {
        int[][] rows = {
            {1, 1, SIGN + 2, 5, 5, 5}, {2, 1, 7, SIGN + 2, 7, 5}, {3, 1, SIGN, SIGN, 1, 1},
            {5, 1, SIGN, 5, SIGN + 1, 5}, {5, 1, 65536 + 1, 5, 2, 5}, {6, 1, SIGN, 65536, SIGN, 0},
            {7, 1, 65536, SIGN + 1, 1, 2}, {7, 1, SIGN, SIGN, SIGN + 1, 1}, {7, 1, 1, SIGN, 3, 0},
            {9, 1, 1, 1, SIGN, 1}, {10, 1, 1, 1, 1, SIGN}, {11, 1, 1, 1, SIGN, SIGN},
            {13, 1, SIGN, 3, SIGN + 65536, 3}, {13, 1, 3, 3, 1, 3}, {14, 1, 1, SIGN, 1, SIGN + 65536},
            {15, 1, SIGN + 1, SIGN, SIGN + 65536, SIGN + 65536}, {15, 1, 1, 0, 0, SIGN}};
        for (int[] row : rows) {
            SignedCore x = Check.machine(row[2], row[3], Check.op(Check.SHIFT, row[0] * 512 + row[1]));
            x.run(1);
            Check.state("SHIFT " + row[0] + " of " + row[2] + ", " + row[3], x, row[4], row[5], 101, 0);
        }
    }

    private static void illegalShifts() {
        int[] kinds = {0, 4, 8, 12};
        for (int kind : kinds) {
            for (int nine = 0; nine <= 511; nine += 73) {
                SignedCore x = Check.machine(SIGN + 5, 6, Check.op(Check.SHIFT, kind * 512 + nine));
                Check.due("SHIFT " + kind, x.run(4), 3);
                Check.state("SHIFT " + kind, x, SIGN + 5, 6, 101, 0);
                Check.due("SHIFT " + kind + ": halted at", x.ran(6), 100);
            }
        }
    }

    private static void law() {
        int[] ys = {0, 1, 4095};
        for (int y : ys) {
            SignedCore x = Check.machine(9, 8, Check.op(Check.LAW, y));
            Check.due("LAW", x.run(1), 0);
            Check.state("LAW " + y, x, y, 8, 101, 0);
            x = Check.machine(9, 8, Check.opI(Check.LAW, y));
            x.run(1);
            Check.state("LAW I " + y, x, MZ - y, 8, 101, 0);
            Check.due("LAW I " + y + ": asked for", x.ran(2), 0);
        }
    }

    private static void operated(int y, int ac, int io, int end) {
        SignedCore x = Check.machine(12, 7, Check.op(Check.OPR, y));
        x.switches(0, 5);
        Check.due("OPR " + y, x.run(1), end);
        Check.state("OPR " + y, x, ac, io, 101, 0);
        x = Check.machine(12, 7, Check.opI(Check.OPR, y));
        x.switches(0, 5);
        Check.due("OPR I " + y, x.run(1), end);
        Check.state("OPR I " + y, x, ac, io, 101, 0);
    }

    private static void operate() {
        operated(0, 12, 7, 0);
        operated(16, 12, 7, 0);
        operated(32, 12, 7, 0);
        operated(128, 0, 7, 0);
        operated(2048, 12, 0, 0);
        operated(1024, 13, 7, 0);
        operated(64, 12 | 101, 7, 0);
        operated(512, MZ - 12, 7, 0);
        operated(256, 12, 7, 1);
    }

    private static void operateInOrder() {
        operated(128 + 512, MZ, 7, 0);
        operated(128 + 1024, 5, 7, 0);
        operated(128 + 64, 101, 7, 0);
        operated(128 + 64 + 1024, 101 | 5, 7, 0);
        operated(1024 + 512, MZ - 13, 7, 0);
        operated(64 + 512, MZ - (12 | 101), 7, 0);
        operated(128 + 2048 + 1024 + 64 + 512 + 256, MZ - (101 | 5), 0, 1);
        SignedCore x = Check.machine(0, 0, Check.op(Check.OPR, 64));
        x.set(3, 1);
        x.run(1);
        Check.due("the PLACE has OV", x.told(0), SIGN + 101);
    }

    private static void flags() {
        for (int n = 0; n <= 7; n++) {
            int meant = n == 7 ? 63 : n == 0 ? 0 : 1 << (n - 1);
            int[] before = {0, 63, 21, 42};
            for (int f : before) {
                SignedCore x = Check.machine(12, 7, Check.op(Check.OPR, 8 + n));
                x.set(4, f);
                x.switches(63, 3);
                Check.due("FLAG " + n + " without HALT", x.run(1), 0);
                Check.due("FLAG " + n + " becomes 1", x.told(4), f | meant);
                Check.state("FLAG " + n + " becomes 1", x, 12, 7, 101, 0);
                x = Check.machine(12, 7, Check.op(Check.OPR, n));
                x.set(4, f);
                x.switches(63, 3);
                Check.due("FLAG " + n + " without HALT", x.run(1), 0);
                Check.due("FLAG " + n + " becomes 0", x.told(4), f & (63 - meant));
                Check.state("FLAG " + n + " becomes 0", x, 12, 7, 101, 0);
            }
        }
        SignedCore x = Check.machine(0, 0, Check.op(Check.OPR, 256 + 8 + 3));
        Check.due("FLAG and HALT", x.run(1), 1);
        Check.due("FLAG is put ahead of HALT", x.told(4), 4);
    }

    private static void illegal() {
        int[] codes = {0, 5, 6, 15, 30};
        for (int code : codes) {
            int[] words = {Check.op(code, 0), Check.op(code, 200), Check.opI(code, 200), Check.opI(code, 4095)};
            for (int w : words) {
                SignedCore x = Check.machine(5, 6, w, 4096 + 200);
                x.set(3, 1);
                int before = x.digest();
                Check.due("code " + code, x.run(7), 3);
                Check.state("code " + code, x, 5, 6, 101, 1);
                Check.due("code " + code + ": core", x.digest(), before);
                Check.due("code " + code + ": halted at", x.ran(6), 100);
                Check.due("code " + code + ": steps", x.ran(0), 1);
                Check.due("code " + code + ": asked for", x.ran(2), 0);
            }
        }
    }
}
