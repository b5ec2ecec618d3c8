/** Promise 10 (and 4, 5 of promise 11): the instructions with an ADDRESS. */
public final class ArithmeticTest {
    private static final int MZ = Check.MINUS_ZERO;
    private static final int SIGN = Check.SIGN;

    private ArithmeticTest() {
    }

    public static void main(String[] args) {
        logic();
        moves();
        add();
        subtract();
        overflowStays();
        index();
        compare();
        multiplyStep();
        divideStep();
        wholeProduct();
        Check.finish();
    }

    private static SignedCore did(int code, int ac, int io, int c) {
        SignedCore x = Check.machine(ac, io, Check.op(code, 200), c);
        Check.due("run of " + code, x.run(1), 0);
        return x;
    }

    private static void logic() {
        Check.due("AND", did(Check.AND, 12, 0, 10).told(0), 8);
        Check.due("IOR", did(Check.IOR, 12, 0, 10).told(0), 14);
        Check.due("XOR", did(Check.XOR, 12, 0, 10).told(0), 6);
        Check.due("AND of signs", did(Check.AND, MZ, 0, SIGN).told(0), SIGN);
        Check.due("IOR of signs", did(Check.IOR, 1, 0, SIGN).told(0), SIGN + 1);
        Check.due("XOR of signs", did(Check.XOR, MZ, 0, MZ).told(0), 0);
    }

    private static void moves() {
        Check.state("LAC", did(Check.LAC, 5, 6, MZ), MZ, 6, 101, 0);
        Check.state("LIO", did(Check.LIO, 5, 6, MZ), 5, MZ, 101, 0);
        int[] codes = {Check.DAC, Check.DAP, Check.DIP, Check.DIO, Check.DZM};
        int[] fromOnes = {4096 * 9 + 7, MZ - 4095 + 7, 4096 * 9 + 4095, 33, 0};
        int[] fromZero = {4096 * 9 + 7, 7, 4096 * 9, 33, 0};
        for (int i = 0; i < codes.length; i++) {
            SignedCore x = did(codes[i], 4096 * 9 + 7, 33, MZ);
            Check.due("C, of ones, by " + codes[i], x.core(200), fromOnes[i]);
            Check.state("stays by " + codes[i], x, 4096 * 9 + 7, 33, 101, 0);
            x = did(codes[i], 4096 * 9 + 7, 33, 0);
            Check.due("C, of 0, by " + codes[i], x.core(200), fromZero[i]);
        }
        Check.due("DIP of the sign", did(Check.DIP, SIGN, 0, 0).core(200), SIGN);
    }

    private static void sums(int code, int ac, int c, int want, int ov) {
        SignedCore x = did(code, ac, 3, c);
        String what = code + " of " + ac + " and " + c;
        Check.state(what, x, want, 3, 101, ov);
        Check.due(what + ": overflows", x.ran(5), ov);
        Check.due(what + ": C", x.core(200), c);
    }

    private static void add() {
        sums(Check.ADD, 2, 3, 5, 0);
        sums(Check.ADD, 5, MZ - 3, 2, 0);
        sums(Check.ADD, 3, MZ - 5, MZ - 2, 0);
        sums(Check.ADD, 5, MZ - 5, 0, 0);
        sums(Check.ADD, MZ, MZ, 0, 0);
        sums(Check.ADD, MZ, 0, 0, 0);
        sums(Check.ADD, 0, 0, 0, 0);
        sums(Check.ADD, MZ, 7, 7, 0);
        sums(Check.ADD, 131071, 1, SIGN, 1);
        sums(Check.ADD, 131071, 131071, 262142, 1);
        sums(Check.ADD, SIGN, MZ - 1, 131071, 1);
        sums(Check.ADD, SIGN, SIGN, 1, 1);
        sums(Check.ADD, SIGN, MZ, SIGN, 0);
        sums(Check.ADD, SIGN, 131071, 0, 0);
    }

    private static void subtract() {
        sums(Check.SUB, 5, 3, 2, 0);
        sums(Check.SUB, 3, 5, MZ - 2, 0);
        sums(Check.SUB, 5, 5, 0, 0);
        sums(Check.SUB, MZ, 0, MZ, 0);
        sums(Check.SUB, MZ, MZ, 0, 0);
        sums(Check.SUB, 0, MZ, 0, 0);
        sums(Check.SUB, 0, 0, 0, 0);
        sums(Check.SUB, 131071, MZ - 1, SIGN, 1);
        sums(Check.SUB, SIGN, 1, 131071, 1);
        sums(Check.SUB, SIGN, 131071, 1, 1);
        sums(Check.SUB, SIGN, 0, SIGN, 0);
    }

    private static void overflowStays() {
        SignedCore x = Check.machine(1, 0, Check.op(Check.ADD, 200), 1);
        x.set(3, 1);
        x.run(1);
        Check.due("OV stays without OVERFLOW", x.told(3), 1);
        Check.due("OV that stays is not counted", x.ran(5), 0);
        x = Check.machine(131071, 0, Check.op(Check.ADD, 200), 131071);
        x.put(101, Check.op(Check.SUB, 200));
        x.run(2);
        Check.due("262142 less 131071 overflows", x.told(0), 131071);
        Check.due("two OVERFLOWS", x.ran(5), 2);
        Check.due("two OVERFLOWS: OV", x.told(3), 1);
    }

    private static void index() {
        int[][] rows = {{0, 1}, {5, 6}, {131071, SIGN}, {262142, 0}, {MZ, 1}, {262141, 262142}};
        for (int[] row : rows) {
            SignedCore x = did(Check.IDX, 9, 8, row[0]);
            Check.state("IDX " + row[0], x, row[1], 8, 101, 0);
            Check.due("IDX " + row[0] + ": C", x.core(200), row[1]);
            Check.due("IDX " + row[0] + ": overflows", x.ran(5), 0);
            Check.due("IDX " + row[0] + ": skips", x.ran(4), 0);
            boolean skips = row[1] < SIGN;
            x = did(Check.ISP, 9, 8, row[0]);
            Check.state("ISP " + row[0], x, row[1], 8, skips ? 102 : 101, 0);
            Check.due("ISP " + row[0] + ": C", x.core(200), row[1]);
            Check.due("ISP " + row[0] + ": skips", x.ran(4), skips ? 1 : 0);
        }
    }

    private static void compare() {
        Check.state("SAD of the same", did(Check.SAD, 4, 0, 4), 4, 0, 101, 0);
        Check.state("SAD of others", did(Check.SAD, 4, 0, 5), 4, 0, 102, 0);
        Check.state("SAD of both zeros", did(Check.SAD, 0, 0, MZ), 0, 0, 102, 0);
        Check.state("SAS of the same", did(Check.SAS, 4, 0, 4), 4, 0, 102, 0);
        Check.state("SAS of others", did(Check.SAS, 4, 0, 5), 4, 0, 101, 0);
        Check.due("SAS counts", did(Check.SAS, 4, 0, 4).ran(4), 1);
        Check.due("SAS does not count", did(Check.SAS, 4, 0, 5).ran(4), 0);
        Check.due("SAD counts", did(Check.SAD, 4, 0, 5).ran(4), 1);
        SignedCore x = new SignedCore();
        x.set(2, 4094);
        x.put(4094, Check.op(Check.SAS, 0));
        x.run(1);
        Check.due("behind 4095 comes 0 by a skip", x.told(2), 0);
    }

    private static void multiplyStep() {
        Check.state("MUS of 1", did(Check.MUS, 2, 3, 5), 3, SIGN + 1, 101, 0);
        Check.state("MUS of 0", did(Check.MUS, 3, 2, 5), 1, SIGN + 1, 101, 0);
        Check.state("MUS: 0 comes in", did(Check.MUS, SIGN, SIGN, 5), SIGN / 2, SIGN / 2, 101, 0);
        Check.state("MUS: 0 for minus zero", did(Check.MUS, 5, 1, MZ - 5), 0, 0, 101, 0);
        Check.state("MUS: minus zero that stays", did(Check.MUS, MZ, 0, 5), 131071, SIGN, 101, 0);
        SignedCore x = did(Check.MUS, 131071, 1, 1);
        Check.state("MUS does not set OV", x, SIGN / 2, 0, 101, 0);
        Check.due("MUS: no OVERFLOW is counted", x.ran(5), 0);
    }

    private static void divideStep() {
        Check.state("DIS of sign 0", did(Check.DIS, 3, SIGN, 2), 5, 1, 101, 0);
        Check.state("DIS to minus zero", did(Check.DIS, 1, 131075, 3), 0, 7, 101, 0);
        Check.state("DIS of sign 1", did(Check.DIS, SIGN + 1, 1, 3), 6, 2, 101, 0);
        Check.state("DIS of sign 1, IO's sign 1", did(Check.DIS, SIGN, SIGN, 3), 5, 0, 101, 0);
        Check.state("DIS: 1 to minus zero", did(Check.DIS, SIGN, 0, MZ), 1, 0, 101, 0);
        Check.state("DIS: two SUMS", did(Check.DIS, MZ, MZ, MZ), 1, 262142, 101, 0);
        Check.state("DIS: 0 for minus zero by 1", did(Check.DIS, SIGN, 0, 262142), 0, 0, 101, 0);
        Check.state("DIS below 0", did(Check.DIS, 0, 0, 3), MZ - 3, 1, 101, 0);
        SignedCore x = did(Check.DIS, SIGN / 2 - 1, SIGN, MZ - 131071);
        Check.due("DIS: no OVERFLOW is counted", x.ran(5), 0);
        Check.due("DIS does not set OV", x.told(3), 0);
    }

    private static void wholeProduct() {
        SignedCore x = new SignedCore();
        for (int i = 0; i < 17; i++) {
            x.put(i, Check.op(Check.MUS, 200));
        }
        x.put(200, 1234);
        x.set(1, 4321);
        x.run(17);
        long both = ((long) x.told(0) << 18) | x.told(1);
        Check.due("17 steps of multiplying", both, 2L * 1234 * 4321);
    }
}
