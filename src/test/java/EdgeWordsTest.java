/** "Terms", the boundary cases of words, SUM, OVERFLOW and of the instructions that reckon: a test for each sentence. */
public final class EdgeWordsTest {
    private static final int MZ = Check.MINUS_ZERO;
    private static final int SIGN = Check.SIGN;
    private static final int MOST = SIGN - 1;

    private EdgeWordsTest() {
    }

    public static void main(String[] args) {
        wordsHave18Bits();
        valueBySign();
        minusZeroIsAValueOf0();
        notIs262143Less();
        sumAbove262143();
        sumOf262143Stays();
        overflowNeedsTheSameSign();
        overflowNeedsTheOtherSign();
        overflowIsOfTheSum();
        addMakesMinusZero0();
        addLeavesOvWithoutOverflow();
        subKeepsMinusZero();
        subOverflowIsOfThatSum();
        subLeavesOvWithoutOverflow();
        onlyAddAndSubOverflow();
        idxAt262143();
        idxAt262144();
        idxOverTheSign();
        ispBySign();
        sadAndSasTellZerosApart();
        musByTheLowestBit();
        musMakesMinusZero0();
        musLeavesMinusZeroThatItDidNotMake();
        musLets0ComeIn();
        disBySign();
        disGoesThroughBoth();
        disMakesMinusZero0();
        disAddsOneBehindTheSum();
        logicOfAllBits();
        movesOfWholeWords();
        dapTakes12Bits();
        dipTakes6Bits();
        lawOf12Bits();
        Check.finish();
    }

    private static SignedCore did(int code, int ac, int io, int c) {
        return Check.did(ac, io, Check.op(code, 200), c);
    }

    private static void sums(int code, int ac, int c, int want, int overflow) {
        SignedCore x = did(code, ac, 3, c);
        String what = code + " of " + ac + " and " + c;
        Check.state(what, x, want, 3, 101, overflow);
        Check.due(what + ": OVERFLOWS", x.ran(5), overflow);
    }

    private static void wordsHave18Bits() {
        Check.sentence("WORDS have 18 bits, told as numbers 0 .. 262143");
        SignedCore x = new SignedCore();
        Check.due("least", x.put(7, 0), 0);
        Check.due("most", x.put(7, 262143), 0);
        Check.due("above", x.put(7, 262144), SignedCore.BAD);
        Check.due("below", x.put(7, -1), SignedCore.BAD);
        Check.due("stays", x.core(7), 262143);
    }

    private static void valueBySign() {
        Check.sentence("Of a word w with sign 0 the value is w, with sign 1 that less 262143");
        SignedCore x = new SignedCore();
        Check.due("0", x.value(0), 0);
        Check.due("the last of sign 0", x.value(131071), 131071);
        Check.due("the first of sign 1", x.value(131072), -131071);
        Check.due("-1", x.value(262142), -1);
    }

    private static void minusZeroIsAValueOf0() {
        Check.sentence("262143 is minus zero");
        SignedCore x = new SignedCore();
        Check.due("value", x.value(262143), 0);
        Check.due("word of 0", x.word(0), 0);
        Check.due("it is kept in CORE", x.put(1, MZ) + x.core(1), MZ);
        Check.due("it is kept in AC", x.set(0, MZ) + x.told(0), MZ);
    }

    private static void notIs262143Less() {
        Check.sentence("NOT w is 262143 less w");
        int[] words = {0, 1, MOST, SIGN, MZ - 1, MZ};
        for (int w : words) {
            SignedCore x = Check.did(w, 5, Check.op(Check.OPR, 512), 0);
            Check.state("NOT " + w, x, 262143 - w, 5, 101, 0);
        }
    }

    private static void sumAbove262143() {
        Check.sentence("SUM of words x, y: as numbers; if it is above 262143, 262143 less");
        sums(Check.ADD, MZ, 1, 1, 0);
        sums(Check.ADD, MZ - 1, 2, 1, 0);
        sums(Check.ADD, MZ - 1, MZ - 1, MZ - 2, 0);
        sums(Check.SUB, 0, 1, MZ - 1, 0);
        sums(Check.SUB, 4, MZ, 4, 0);
    }

    private static void sumOf262143Stays() {
        Check.sentence("SUM: if it is above 262143 (262143 is not)");
        sums(Check.SUB, 5, 5, 0, 0);
        sums(Check.SUB, MOST, MOST, 0, 0);
        sums(Check.SUB, SIGN, SIGN, 0, 0);
        sums(Check.SUB, MZ, MZ, 0, 0);
    }

    private static void overflowNeedsTheSameSign() {
        Check.sentence("SUM has OVERFLOW, if x and y have the same sign");
        sums(Check.ADD, MOST, SIGN, 0, 0);
        sums(Check.ADD, MOST, MZ, MOST, 0);
        sums(Check.ADD, MZ, MOST, MOST, 0);
        sums(Check.ADD, 0, SIGN, SIGN, 0);
        sums(Check.ADD, 1, SIGN, SIGN + 1, 0);
    }

    private static void overflowNeedsTheOtherSign() {
        Check.sentence("SUM has OVERFLOW, if .. it the other one");
        sums(Check.ADD, MOST, 0, MOST, 0);
        sums(Check.ADD, MOST - 1, 1, MOST, 0);
        sums(Check.ADD, MOST, 1, SIGN, 1);
        sums(Check.ADD, MOST, MOST, MZ - 1, 1);
        sums(Check.ADD, SIGN, MZ, SIGN, 0);
        sums(Check.ADD, SIGN + 1, MZ - 1, SIGN, 0);
        sums(Check.ADD, SIGN, MZ - 1, MOST, 1);
        sums(Check.ADD, SIGN, SIGN, 1, 1);
    }

    private static void overflowIsOfTheSum() {
        Check.sentence("OVERFLOW is SUM's, which is minus zero before AC becomes 0");
        sums(Check.ADD, MZ, MZ, 0, 0);
    }

    private static void addMakesMinusZero0() {
        Check.sentence("ADD: AC becomes SUM of both, 0 for minus zero");
        sums(Check.ADD, 0, MZ, 0, 0);
        sums(Check.ADD, MZ, 0, 0, 0);
        sums(Check.ADD, 5, MZ - 5, 0, 0);
        sums(Check.ADD, SIGN, MOST, 0, 0);
    }

    private static void addLeavesOvWithoutOverflow() {
        Check.sentence("ADD: OV 1 by OVERFLOW (it is not put to 0 without)");
        SignedCore x = Check.machine(1, 0, Check.op(Check.ADD, 200), 1);
        x.set(3, 1);
        x.run(1);
        Check.state("1 and 1", x, 2, 0, 101, 1);
        Check.due("not counted", x.ran(5), 0);
    }

    private static void subKeepsMinusZero() {
        Check.sentence("SUB: AC becomes NOT of SUM of NOT AC and C (minus zero is not put to 0)");
        sums(Check.SUB, MZ, 0, MZ, 0);
        sums(Check.SUB, 0, 0, 0, 0);
        sums(Check.SUB, 0, MZ, 0, 0);
    }

    private static void subOverflowIsOfThatSum() {
        Check.sentence("SUB: OV 1 by OVERFLOW of that SUM");
        sums(Check.SUB, MOST, MZ - 1, SIGN, 1);
        sums(Check.SUB, MOST, MZ, MOST, 0);
        sums(Check.SUB, MOST, SIGN, MZ - 1, 1);
        sums(Check.SUB, SIGN, 1, MOST, 1);
        sums(Check.SUB, SIGN, 0, SIGN, 0);
        sums(Check.SUB, SIGN, MOST, 1, 1);
        sums(Check.SUB, SIGN + 1, 1, SIGN, 0);
        sums(Check.SUB, SIGN, MZ, SIGN, 0);
        sums(Check.SUB, MOST, MOST, 0, 0);
    }

    private static void subLeavesOvWithoutOverflow() {
        Check.sentence("SUB: OV 1 by OVERFLOW (it is not put to 0 without)");
        SignedCore x = Check.machine(1, 0, Check.op(Check.SUB, 200), 1);
        x.set(3, 1);
        x.run(1);
        Check.state("1 less 1", x, 0, 0, 101, 1);
        Check.due("not counted", x.ran(5), 0);
    }

    private static void onlyAddAndSubOverflow() {
        Check.sentence("5 OVERFLOWS (of ADD, SUB)");
        SignedCore[] done = {did(Check.IDX, 0, 0, MOST), did(Check.ISP, 0, 0, MOST), did(Check.MUS, MOST, 1, MOST),
            did(Check.MUS, SIGN, 1, SIGN), did(Check.DIS, MOST / 2, SIGN, SIGN), did(Check.DIS, SIGN, 0, SIGN)};
        for (int i = 0; i < done.length; i++) {
            Check.due("OVERFLOWS of " + i, done[i].ran(5), 0);
            Check.due("OV of " + i, done[i].told(3), 0);
        }
    }

    private static void idxAt262143() {
        Check.sentence("IDX: AC and C become C's number and 1; 262143 is 0");
        SignedCore x = did(Check.IDX, 9, 8, 262142);
        Check.state("IDX", x, 0, 8, 101, 0);
        Check.due("C", x.core(200), 0);
        Check.due("one below stays a number", did(Check.IDX, 9, 8, 262141).core(200), 262142);
    }

    private static void idxAt262144() {
        Check.sentence("IDX: 262144 is 1");
        SignedCore x = did(Check.IDX, 9, 8, 262143);
        Check.state("IDX", x, 1, 8, 101, 0);
        Check.due("C", x.core(200), 1);
    }

    private static void idxOverTheSign() {
        Check.sentence("IDX: C's number and 1 (over the sign too)");
        SignedCore x = did(Check.IDX, 9, 8, MOST);
        Check.state("IDX", x, SIGN, 8, 101, 0);
        Check.due("C", x.core(200), SIGN);
    }

    private static void ispBySign() {
        Check.sentence("ISP: as IDX, then PC one more, if AC's sign is 0");
        int[][] rows = {{0, 1, 1}, {MOST - 1, MOST, 1}, {MOST, SIGN, 0}, {262141, 262142, 0}, {262142, 0, 1},
            {262143, 1, 1}};
        for (int[] row : rows) {
            SignedCore x = did(Check.ISP, SIGN, 8, row[0]);
            Check.state("ISP " + row[0], x, row[1], 8, 101 + row[2], 0);
            Check.due("ISP " + row[0] + ": C", x.core(200), row[1]);
            Check.due("ISP " + row[0] + ": counted", x.ran(4), row[2]);
        }
    }

    private static void sadAndSasTellZerosApart() {
        Check.sentence("SAD: PC one more, if AC is not C. SAS: if it is");
        int[][] rows = {{0, 0}, {0, MZ}, {MZ, 0}, {MZ, MZ}, {MOST, SIGN}, {SIGN, SIGN}, {1, SIGN + 1}};
        for (int[] row : rows) {
            int same = row[0] == row[1] ? 1 : 0;
            SignedCore x = did(Check.SAD, row[0], 0, row[1]);
            Check.state("SAD " + row[0] + ", " + row[1], x, row[0], 0, 102 - same, 0);
            Check.due("SAD counted", x.ran(4), 1 - same);
            x = did(Check.SAS, row[0], 0, row[1]);
            Check.state("SAS " + row[0] + ", " + row[1], x, row[0], 0, 101 + same, 0);
            Check.due("SAS counted", x.ran(4), same);
        }
    }

    private static void musByTheLowestBit() {
        Check.sentence("MUS: if IO's lowest bit is 1, AC becomes SUM of both");
        Check.state("1", did(Check.MUS, 2, 1, 4), 3, 0, 101, 0);
        Check.state("0", did(Check.MUS, 2, MZ - 1, 4), 1, MOST, 101, 0);
        Check.state("SUM above 262143", did(Check.MUS, MZ, 1, 3), 1, SIGN, 101, 0);
    }

    private static void musMakesMinusZero0() {
        Check.sentence("MUS: AC becomes SUM of both, 0 for minus zero");
        Check.state("5 and -5", did(Check.MUS, 5, 1, MZ - 5), 0, 0, 101, 0);
        Check.state("both zeros", did(Check.MUS, MZ, 1, 0), 0, 0, 101, 0);
        Check.state("minus zero twice", did(Check.MUS, MZ, 3, MZ), 0, 1, 101, 0);
    }

    private static void musLeavesMinusZeroThatItDidNotMake() {
        Check.sentence("MUS: if IO's lowest bit is 1, .. 0 for minus zero");
        Check.state("bit 0", did(Check.MUS, MZ, 0, 0), MOST, SIGN, 101, 0);
    }

    private static void musLets0ComeIn() {
        Check.sentence("MUS: AC and IO, as one word of 36 bits, go one to the right, 0 comes in");
        Check.state("signs", did(Check.MUS, SIGN, SIGN, 5), SIGN / 2, SIGN / 2, 101, 0);
        Check.state("AC's lowest bit goes to IO", did(Check.MUS, 1, 0, 5), 0, SIGN, 101, 0);
        Check.state("IO's lowest bit is lost", did(Check.MUS, 0, 1, 0), 0, 0, 101, 0);
    }

    private static void disBySign() {
        Check.sentence("DIS: in comes 1 less s; if that is 1, AC becomes SUM of AC and NOT C, else of AC and C, and 1");
        Check.state("sign 0", did(Check.DIS, 5, 0, 3), 7, 1, 101, 0);
        Check.state("sign 1", did(Check.DIS, SIGN + 5, 0, 3), 14, 0, 101, 0);
        Check.state("0 less 0", did(Check.DIS, 0, 0, 0), 0, 1, 101, 0);
        Check.state("below 0", did(Check.DIS, 0, 0, 1), MZ - 1, 1, 101, 0);
    }

    private static void disGoesThroughBoth() {
        Check.sentence("DIS: s being AC's sign, AC and IO go one to the left");
        Check.state("IO's sign goes to AC", did(Check.DIS, 0, SIGN, 0), 1, 1, 101, 0);
        Check.state("AC's sign is lost", did(Check.DIS, SIGN, 1, 0), 1, 2, 101, 0);
        Check.state("s is AC's sign before", did(Check.DIS, SIGN / 2, 0, 0), SIGN, 1, 101, 0);
    }

    private static void disMakesMinusZero0() {
        Check.sentence("DIS: 0 for minus zero");
        Check.state("the same", did(Check.DIS, 3, 0, 6), 0, 1, 101, 0);
        Check.state("with 1", did(Check.DIS, SIGN, 0, MZ - 1), 0, 0, 101, 0);
        Check.state("0 less minus zero", did(Check.DIS, 0, 0, MZ), 0, 1, 101, 0);
        Check.state("minus zero less 0", did(Check.DIS, MOST, SIGN, 0), 0, 1, 101, 0);
    }

    private static void disAddsOneBehindTheSum() {
        Check.sentence("DIS: .. else of AC and C, and of that and 1");
        Check.state("SUM is minus zero, then 1", did(Check.DIS, SIGN, 0, MZ), 1, 0, 101, 0);
        Check.state("SUM is above 262143", did(Check.DIS, MZ, MZ, MZ), 1, MZ - 1, 101, 0);
        Check.state("SUM over the sign", did(Check.DIS, SIGN, 0, MOST), SIGN, 0, 101, 0);
    }

    private static void logicOfAllBits() {
        Check.sentence("AND: AC and C. IOR: or. XOR: one of both (all 18 bits)");
        int[] words = {0, 1, MOST, SIGN, MZ - 1, MZ};
        for (int a : words) {
            for (int c : words) {
                Check.state("AND " + a + ", " + c, did(Check.AND, a, 7, c), a & c, 7, 101, 0);
                Check.state("IOR " + a + ", " + c, did(Check.IOR, a, 7, c), a | c, 7, 101, 0);
                Check.state("XOR " + a + ", " + c, did(Check.XOR, a, 7, c), a ^ c, 7, 101, 0);
            }
        }
    }

    private static void moved(int code, int ac, int io, int wantAc, int wantIo, int wantC) {
        SignedCore x = did(code, ac, io, 5);
        String what = code + " of " + ac + ", " + io;
        Check.state(what, x, wantAc, wantIo, 101, 0);
        Check.due(what + ": C", x.core(200), wantC);
    }

    private static void movesOfWholeWords() {
        Check.sentence("LAC, LIO, DAC, DIO, DZM: the word (minus zero too)");
        int[] words = {0, SIGN, MZ};
        for (int w : words) {
            moved(Check.DAC, w, 9, w, 9, w);
            moved(Check.DIO, 9, w, 9, w, w);
            moved(Check.DZM, w, w, w, w, 0);
            moved(Check.LAC, w, 9, 5, 9, 5);
            moved(Check.LIO, 9, w, 9, 5, 5);
            Check.due("LAC of " + w, did(Check.LAC, 3, 4, w).told(0), w);
            Check.due("LIO of " + w, did(Check.LIO, 3, 4, w).told(1), w);
        }
    }

    private static void dapTakes12Bits() {
        Check.sentence("DAP: its lowest 12 bits AC's");
        Check.due("ones into 0", did(Check.DAP, MZ, 0, 0).core(200), 4095);
        Check.due("0 into ones", did(Check.DAP, 0, 0, MZ).core(200), MZ - 4095);
        Check.due("bit 12 is not AC's", did(Check.DAP, 4096, 0, 0).core(200), 0);
        Check.state("AC stays", did(Check.DAP, MZ, 5, 0), MZ, 5, 101, 0);
    }

    private static void dipTakes6Bits() {
        Check.sentence("DIP: its highest 6 bits AC's");
        Check.due("ones into 0", did(Check.DIP, MZ, 0, 0).core(200), MZ - 4095);
        Check.due("0 into ones", did(Check.DIP, 0, 0, MZ).core(200), 4095);
        Check.due("bit 11 is not AC's", did(Check.DIP, 2048, 0, 0).core(200), 0);
        Check.state("AC stays", did(Check.DIP, MZ, 5, 0), MZ, 5, 101, 0);
    }

    private static void lawOf12Bits() {
        Check.sentence("LAW: AC becomes Y; I 1: NOT Y");
        Check.state("0", Check.did(9, 8, Check.op(Check.LAW, 0), 0), 0, 8, 101, 0);
        Check.state("4095", Check.did(9, 8, Check.op(Check.LAW, 4095), 0), 4095, 8, 101, 0);
        Check.state("NOT 0 is minus zero", Check.did(9, 8, Check.opI(Check.LAW, 0), 0), MZ, 8, 101, 0);
        Check.state("NOT 4095", Check.did(9, 8, Check.opI(Check.LAW, 4095), 0), MZ - 4095, 8, 101, 0);
    }
}
