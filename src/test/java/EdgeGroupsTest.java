/** "Terms", the boundary cases of SKP, SHIFT, OPR and of what is ILLEGAL: a test for each sentence. */
public final class EdgeGroupsTest {
    private static final int MZ = Check.MINUS_ZERO;
    private static final int SIGN = Check.SIGN;
    private static final int[] LEGAL_KINDS = {1, 2, 3, 5, 6, 7, 9, 10, 11, 13, 14, 15};

    private EdgeGroupsTest() {
    }

    public static void main(String[] args) {
        skpOfNothing();
        skpOneOfThese();
        skpAcIs0();
        skpAcsSign();
        skpIosSign();
        skpOvIs0();
        skpOvBecomes0();
        skpSwitchN();
        skpAllSwitches();
        skpFlagM();
        skpAllFlags();
        shiftOfNoOnes();
        shiftOf9Ones();
        shiftByOnesOnly();
        roundToTheLeft();
        shiftedToTheLeft();
        shiftedBothToTheLeft();
        roundToTheRight();
        shiftedToTheRight();
        shiftedBothToTheRight();
        shiftSignOfAllOnes();
        shiftIsIllegal();
        oprInOrder();
        oprPlace();
        oprFlags();
        oprHaltIsLast();
        oprOfNothing();
        illegalCodes();
        allOtherCodesAreLegal();
        Check.finish();
    }

    private static void skp(String what, SignedCore x, int y, boolean holds) {
        skp(what, x, y, holds, false);
        skp(what + ", I", x, y, holds, true);
    }

    private static void skp(String what, SignedCore x, int y, boolean holds, boolean turned) {
        int ov = x.told(3);
        x.set(2, 100);
        x.put(100, turned ? Check.opI(Check.SKP, y) : Check.op(Check.SKP, y));
        boolean skips = holds != turned;
        Check.due(what, x.run(1), SignedCore.DONE);
        Check.due(what + ": PC", x.told(2), skips ? 102 : 101);
        Check.due(what + ": counted", x.ran(4), skips ? 1 : 0);
        x.set(3, ov);
    }

    private static SignedCore with(int ac, int io, int ov, int flags, int switches) {
        SignedCore x = Check.machine(ac, io, 0);
        x.set(3, ov);
        x.set(4, flags);
        x.switches(switches, 0);
        return x;
    }

    private static void skpOfNothing() {
        Check.sentence("SKP: PC one more, if one of these holds (I 1: if none does): no bits");
        skp("all is 0", with(0, 0, 0, 0, 0), 0, false);
        skp("a bit that tells nothing", with(0, 0, 0, 0, 0), 2048, false);
        skp("all is 1", with(MZ, MZ, 1, 63, 63), 0, false);
    }

    private static void skpOneOfThese() {
        Check.sentence("SKP: if one of these holds");
        int all = 64 + 128 + 512 + 1024 + 8 * 7 + 7;
        skp("all hold: one more, not several", with(0, 0, 0, 0, 0), all, true);
        skp("none holds", with(SIGN, SIGN, 1, 63, 63), all, false);
        skp("the first alone", with(0, SIGN, 1, 63, 63), 64 + 512 + 1024 + 9, true);
        skp("the last alone", with(SIGN, SIGN, 1, 62, 63), 64 + 128 + 512 + 1024 + 9, true);
    }

    private static void skpAcIs0() {
        Check.sentence("64: AC is 0");
        skp("0", with(0, SIGN, 1, 63, 63), 64, true);
        skp("1", with(1, 0, 0, 0, 0), 64, false);
        skp("minus zero is not 0", with(MZ, 0, 0, 0, 0), 64, false);
        skp("the sign alone", with(SIGN, 0, 0, 0, 0), 64, false);
    }

    private static void skpAcsSign() {
        Check.sentence("128: AC's sign is 0; 256: it is 1");
        int[][] rows = {{0, 0}, {131071, 0}, {SIGN, 1}, {MZ, 1}};
        for (int[] row : rows) {
            skp("128 of " + row[0], with(row[0], MZ - row[0], 1, 63, 63), 128, row[1] == 0);
            skp("256 of " + row[0], with(row[0], MZ - row[0], 1, 63, 63), 256, row[1] == 1);
            skp("both of " + row[0], with(row[0], MZ - row[0], 1, 63, 63), 128 + 256, true);
        }
    }

    private static void skpIosSign() {
        Check.sentence("1024: IO's sign is 0");
        int[][] rows = {{0, 0}, {131071, 0}, {SIGN, 1}, {MZ, 1}};
        for (int[] row : rows) {
            skp("IO " + row[0], with(MZ - row[0], row[0], 1, 63, 63), 1024, row[1] == 0);
        }
    }

    private static void skpOvIs0() {
        Check.sentence("512: OV is 0");
        skp("0", with(MZ, MZ, 0, 63, 63), 512, true);
        skp("1", with(0, 0, 1, 0, 0), 512, false);
    }

    private static void ovBehind(String what, int instruction, int ov, int want) {
        SignedCore x = with(0, 0, ov, 0, 0);
        x.put(100, instruction);
        x.run(1);
        Check.due(what, x.told(3), want);
    }

    private static void skpOvBecomes0() {
        Check.sentence("512: .. (and OV becomes 0, whether it was)");
        ovBehind("it was 1", Check.op(Check.SKP, 512), 1, 0);
        ovBehind("it was 1, I", Check.opI(Check.SKP, 512), 1, 0);
        ovBehind("it was 0", Check.op(Check.SKP, 512), 0, 0);
        ovBehind("another one holds ahead", Check.op(Check.SKP, 512 + 64 + 128), 1, 0);
        ovBehind("another one holds behind", Check.op(Check.SKP, 512 + 1024 + 63), 1, 0);
        ovBehind("without 512", Check.op(Check.SKP, 64 + 128 + 256 + 1024 + 2048 + 63), 1, 1);
    }

    private static void skpSwitchN() {
        Check.sentence("n = bits 8, 16, 32 of Y as a number 1 .. 6: SWITCH n is 0");
        for (int n = 1; n <= 6; n++) {
            int one = 1 << (n - 1);
            skp("SWITCH " + n + " alone is 0", with(MZ, MZ, 1, 63, 63 - one), 8 * n, true);
            skp("SWITCH " + n + " alone is 1", with(0, 0, 0, 0, one), 8 * n, false);
        }
    }

    private static void skpAllSwitches() {
        Check.sentence("7: all are (SWITCHES)");
        skp("all are 0", with(MZ, MZ, 1, 63, 0), 56, true);
        for (int n = 1; n <= 6; n++) {
            skp("SWITCH " + n + " is 1", with(0, 0, 0, 0, 1 << (n - 1)), 56, false);
        }
    }

    private static void skpFlagM() {
        Check.sentence("m = the three lowest: FLAG m is 0");
        for (int m = 1; m <= 6; m++) {
            int one = 1 << (m - 1);
            skp("FLAG " + m + " alone is 0", with(MZ, MZ, 1, 63 - one, 63), m, true);
            skp("FLAG " + m + " alone is 1", with(0, 0, 0, one, 0), m, false);
        }
    }

    private static void skpAllFlags() {
        Check.sentence("7: all are (FLAGS)");
        skp("all are 0", with(MZ, MZ, 1, 0, 63), 7, true);
        for (int m = 1; m <= 6; m++) {
            skp("FLAG " + m + " is 1", with(0, 0, 0, 1 << (m - 1), 0), 7, false);
        }
    }

    private static void shifts(int kind, int nine, int ac, int io, int wantAc, int wantIo) {
        SignedCore x = Check.machine(ac, io, Check.op(Check.SHIFT, kind * 512 + nine));
        String what = "kind " + kind + " by " + nine + " of " + ac + ", " + io;
        Check.due(what, x.run(1), SignedCore.DONE);
        Check.state(what, x, wantAc, wantIo, 101, 0);
    }

    private static void shiftOfNoOnes() {
        Check.sentence("as often as the lowest 9 bits of Y have ones (none)");
        for (int kind : LEGAL_KINDS) {
            shifts(kind, 0, SIGN + 1, SIGN + 3, SIGN + 1, SIGN + 3);
        }
    }

    private static void shiftOf9Ones() {
        Check.sentence("as often as the lowest 9 bits of Y have ones (nine)");
        shifts(1, 511, 1, 5, 512, 5);
        shifts(2, 511, 5, SIGN, 5, 256);
        shifts(3, 511, 1, SIGN, 512 + 256, 0);
        shifts(9, 511, 512, 5, 1, 5);
        shifts(13, 511, SIGN, 5, 262144 - 256, 5);
        shifts(15, 511, 512, 0, 1, 0);
        shifts(15, 511, 256, 0, 0, SIGN);
    }

    private static void shiftByOnesOnly() {
        Check.sentence("as often as .. have ones (wherever they stand)");
        for (int bit = 0; bit <= 8; bit++) {
            shifts(1, 1 << bit, 1, 5, 2, 5);
            shifts(1, 511 - (1 << bit), 1, 5, 256, 5);
        }
    }

    private static void roundToTheLeft() {
        Check.sentence("1 AC, 2 IO, 3 both (AC the higher) go round to the left");
        shifts(1, 1, SIGN, SIGN, 1, SIGN);
        shifts(2, 1, SIGN, SIGN, SIGN, 1);
        shifts(3, 1, SIGN, 0, 0, 1);
        shifts(3, 1, 0, SIGN, 1, 0);
        shifts(1, 1, MZ, 0, MZ, 0);
    }

    private static void shiftedToTheLeft() {
        Check.sentence("5, 6 .. SHIFTED: the sign stays, the bit behind it is lost, the sign comes in at the right");
        shifts(5, 1, SIGN, 0, SIGN + 1, 0);
        shifts(5, 1, 65536, SIGN, 0, SIGN);
        shifts(5, 1, SIGN + 65536, 0, SIGN + 1, 0);
        shifts(5, 1, 32768, SIGN, 65536, SIGN);
        shifts(6, 1, 0, SIGN, 0, SIGN + 1);
        shifts(6, 1, SIGN, 65536, SIGN, 0);
        shifts(6, 1, SIGN, 1, SIGN, 2);
    }

    private static void shiftedBothToTheLeft() {
        Check.sentence("7 .. (of both AC's sign, which alone stays)");
        shifts(7, 1, SIGN, 0, SIGN, 1);
        shifts(7, 1, 0, SIGN, 1, 0);
        shifts(7, 1, 65536, 0, 0, 0);
        shifts(7, 1, SIGN, SIGN, SIGN + 1, 1);
        shifts(7, 1, 0, 65536, 0, SIGN);
    }

    private static void roundToTheRight() {
        Check.sentence("9, 10, 11 round to the right");
        shifts(9, 1, 1, 1, SIGN, 1);
        shifts(10, 1, 1, 1, 1, SIGN);
        shifts(11, 1, 1, 0, 0, SIGN);
        shifts(11, 1, 0, 1, SIGN, 0);
        shifts(9, 1, MZ, 0, MZ, 0);
    }

    private static void shiftedToTheRight() {
        Check.sentence("13, 14 .. SHIFTED: the sign stays, and comes in behind it");
        shifts(13, 1, SIGN, 0, SIGN + 65536, 0);
        shifts(13, 1, 65536, SIGN, 32768, SIGN);
        shifts(13, 1, 1, SIGN, 0, SIGN);
        shifts(14, 1, 0, SIGN, 0, SIGN + 65536);
        shifts(14, 1, SIGN, 65536, SIGN, 32768);
        shifts(14, 1, SIGN, 1, SIGN, 0);
    }

    private static void shiftedBothToTheRight() {
        Check.sentence("15 .. (AC's sign alone stays)");
        shifts(15, 1, SIGN, 0, SIGN + 65536, 0);
        shifts(15, 1, 0, SIGN, 0, 65536);
        shifts(15, 1, 1, 1, 0, SIGN);
        shifts(15, 1, SIGN + 1, SIGN, SIGN + 65536, SIGN + 65536);
    }

    private static void shiftSignOfAllOnes() {
        Check.sentence("SHIFTED: minus zero and 0 stay what they are");
        for (int kind : LEGAL_KINDS) {
            shifts(kind, 511, MZ, MZ, MZ, MZ);
            shifts(kind, 511, 0, 0, 0, 0);
        }
    }

    private static void halts(String what, int instruction, int end) {
        SignedCore x = with(SIGN + 5, 6, 1, 42, 21);
        x.put(100, instruction);
        x.put(101, Check.op(Check.LAW, 3));
        int before = x.digest();
        Check.due(what, x.run(2), end);
        Check.state(what, x, SIGN + 5, 6, 101, 1);
        Check.due(what + ": FLAGS", x.told(4), 42);
        Check.due(what + ": CORE", x.digest(), before);
        Check.due(what + ": STEPS", x.ran(0), 1);
        Check.due(what + ": asked for", x.ran(2), 0);
        Check.due(what + ": halted at", x.ran(6), 100);
    }

    private static void shiftIsIllegal() {
        Check.sentence("SHIFT .. Others: ILLEGAL");
        int[] kinds = {0, 4, 8, 12};
        int[] nines = {0, 1, 256, 511};
        for (int kind : kinds) {
            for (int nine : nines) {
                halts("kind " + kind + " by " + nine, Check.op(Check.SHIFT, kind * 512 + nine), SignedCore.ILLEGAL);
            }
        }
    }

    private static void opr(String what, int y, int wantAc, int wantIo) {
        SignedCore x = with(12, 7, 0, 0, 0);
        x.switches(0, 5);
        x.put(100, Check.op(Check.OPR, y));
        Check.due(what, x.run(1), SignedCore.DONE);
        Check.state(what, x, wantAc, wantIo, 101, 0);
    }

    private static void oprInOrder() {
        Check.sentence("OPR, by bits of Y, in this order");
        opr("128, then 512", 128 + 512, MZ, 7);
        opr("128, then 1024", 128 + 1024, 5, 7);
        opr("128, then 64", 128 + 64, 101, 7);
        opr("1024, then 512", 1024 + 512, MZ - 13, 7);
        opr("64, then 512", 64 + 512, MZ - (12 | 101), 7);
        opr("all but HALT", 128 + 2048 + 1024 + 64 + 512, MZ - (5 | 101), 0);
    }

    private static void oprPlace() {
        Check.sentence("64 AC or the PLACE");
        SignedCore x = with(2, 0, 1, 0, 0);
        x.put(100, Check.op(Check.OPR, 64));
        x.run(1);
        Check.due("with OV", x.told(0), SIGN + (101 | 2));
    }

    private static void oprFlags() {
        Check.sentence("n = the three lowest: 8 FLAG n becomes 1, without 8 it becomes 0 (7: all; 0: none)");
        int[] before = {0, 63, 42, 21};
        for (int f : before) {
            for (int n = 0; n <= 7; n++) {
                int meant = n == 0 ? 0 : n == 7 ? 63 : 1 << (n - 1);
                SignedCore x = with(1, 2, 1, f, 0);
                x.switches(63 - f, 262142);
                x.put(100, Check.op(Check.OPR, 8 + n));
                x.put(101, Check.op(Check.OPR, n));
                x.run(1);
                Check.state("FLAG " + n + " alone", x, 1, 2, 101, 1);
                Check.due("FLAG " + n + " of " + f + " becomes 1", x.told(4), f | meant);
                x.set(4, f);
                x.run(1);
                Check.due("FLAG " + n + " of " + f + " becomes 0", x.told(4), f - (f & meant));
                Check.state("FLAG " + n, x, 1, 2, 102, 1);
            }
        }
    }

    private static void oprHaltIsLast() {
        Check.sentence("256 HALT (all else of OPR is done)");
        SignedCore x = with(12, 7, 0, 0, 0);
        x.put(100, Check.op(Check.OPR, 256 + 128 + 2048 + 512 + 8 + 6));
        Check.due("run", x.run(9), SignedCore.HALT);
        Check.state("HALT", x, MZ, 0, 101, 0);
        Check.due("FLAG 6", x.told(4), 32);
        Check.due("one STEP", x.ran(0), 1);
        Check.due("halted at", x.ran(6), 100);
    }

    private static void oprOfNothing() {
        Check.sentence("OPR, by bits of Y (none, or those that tell nothing)");
        int[] ys = {0, 8, 16, 32, 16 + 32};
        for (int y : ys) {
            opr("Y " + y, y, 12, 7);
        }
    }

    private static void illegalCodes() {
        Check.sentence("Others ILLEGAL (0, 5, 6, 15, 30)");
        int[] codes = {0, 5, 6, 15, 30};
        int[] rests = {0, 200, 4095, 4096, 4096 + 100, 8191};
        for (int code : codes) {
            for (int rest : rests) {
                halts("code " + code + ", " + rest, Check.op(code, rest), SignedCore.ILLEGAL);
            }
        }
    }

    private static void allOtherCodesAreLegal() {
        Check.sentence("Others ILLEGAL (no more than 0, 5, 6, 15, 30)");
        for (int code = 0; code <= 31; code++) {
            boolean told = code == 0 || code == 5 || code == 6 || code == 15 || code == 30;
            SignedCore x = Check.machine(0, 0, Check.op(code, code == 27 ? 512 : 200), Check.op(Check.LAW, 1));
            Check.due("code " + code, x.run(1), told ? SignedCore.ILLEGAL : SignedCore.DONE);
            Check.due("reads of code " + code, x.reads(x.core(100), 5), told ? 1 : 0);
        }
    }
}
