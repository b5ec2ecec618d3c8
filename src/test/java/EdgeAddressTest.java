/** "Terms", the boundary cases of PC, ADDRESSES, chains, XCT and THE PLACE: a test for each sentence. */
public final class EdgeAddressTest {
    private static final int SIGN = Check.SIGN;
    private static final int[] STARRED = {1, 2, 3, 4, 8, 9, 10, 11, 12, 13, 14, 16, 17, 18, 19, 20, 21, 22, 23, 24, 25};
    private static final int LINKS = 300;
    private static final int TARGET = 200;

    private EdgeAddressTest() {
    }

    public static void main(String[] args) {
        behind4095Comes0ByAStep();
        behind4095Comes0ByASkip();
        behind4095Comes0WhenItHalts();
        behind4095Comes0InThePlace();
        addressIsYWithoutI();
        addressOfEdges();
        chainOfOneWord();
        chainGoesOnSoLongAsThatWordHasI();
        chainTakes12Bits();
        chainOf32Words();
        chainOf33Words();
        chainHaltsEachStarred();
        chainsOfTwoInstructionsAreApart();
        xctIsDoneInPlace();
        xctOf32Words();
        xctOf33Words();
        xctOfItself();
        xctChainAndChainOfWhatIsDone();
        xctWithAnEndlessChain();
        calIs64();
        jdaBehind4095();
        jdaHasNoChain();
        placeHasOvAsBit0();
        Check.finish();
    }

    private static SignedCore at(int pc, int instruction) {
        SignedCore x = new SignedCore();
        x.set(2, pc);
        x.put(pc, instruction);
        return x;
    }

    private static void behind4095Comes0ByAStep() {
        Check.sentence("PC an address (12 bits; behind 4095 comes 0)");
        SignedCore x = at(4095, Check.op(Check.LAW, 5));
        x.put(0, Check.op(Check.LAW, 6));
        x.run(1);
        Check.state("from 4095", x, 5, 0, 0, 0);
        x.run(1);
        Check.state("from 0", x, 6, 0, 1, 0);
        x = at(4094, Check.op(Check.LAW, 5));
        x.run(1);
        Check.state("from 4094", x, 5, 0, 4095, 0);
    }

    private static void behind4095Comes0ByASkip() {
        Check.sentence("PC one more (behind 4095 comes 0)");
        int[] skips = {Check.op(Check.SKP, 64), Check.op(Check.ISP, 9), Check.opI(Check.SKP, 0),
            Check.op(Check.SAS, 9), Check.op(Check.SAD, 10)};
        for (int w : skips) {
            SignedCore x = at(4094, w);
            x.put(10, 1);
            x.run(1);
            Check.due("skip of 4095 by " + w, x.told(2), 0);
            x = at(4095, w);
            x.put(10, 1);
            x.run(1);
            Check.due("skip of 0 by " + w, x.told(2), 1);
        }
    }

    private static void behind4095Comes0WhenItHalts() {
        Check.sentence("nothing else of that instruction is done, but PC is behind it (at 4095)");
        SignedCore x = at(4095, 0);
        Check.due("ILLEGAL", x.run(2), SignedCore.ILLEGAL);
        Check.due("ILLEGAL: PC", x.told(2), 0);
        Check.due("ILLEGAL: halted at", x.ran(6), 4095);
        x = at(4095, Check.opI(Check.LAC, 4095));
        Check.due("CHAIN", x.run(2), SignedCore.CHAIN);
        Check.due("CHAIN: PC", x.told(2), 0);
        Check.due("CHAIN: halted at", x.ran(6), 4095);
        x = at(4095, Check.STOP);
        Check.due("HALT", x.run(2), SignedCore.HALT);
        Check.due("HALT: PC", x.told(2), 0);
        Check.due("HALT: halted at", x.ran(6), 4095);
    }

    private static void behind4095Comes0InThePlace() {
        Check.sentence("THE PLACE is PC (behind 4095 comes 0)");
        int[] words = {Check.op(Check.JSP, 50), Check.op(Check.CALL, 0), Check.opI(Check.CALL, 50),
            Check.op(Check.OPR, 64)};
        for (int w : words) {
            SignedCore x = at(4095, w);
            x.run(1);
            Check.due("without OV, by " + w, x.told(0), 0);
            x = at(4095, w);
            x.set(3, 1);
            x.run(1);
            Check.due("with OV, by " + w, x.told(0), SIGN);
            x = at(4094, w);
            x.run(1);
            Check.due("4095, by " + w, x.told(0), 4095);
        }
    }

    private static void addressIsYWithoutI() {
        Check.sentence("the word at an ADDRESS is meant (C): Y, if I is 0");
        SignedCore x = Check.did(0, 0, Check.op(Check.LAC, 200), 4096 + 200);
        Check.due("a word with I", x.told(0), 4096 + 200);
        Check.due("none asked for", x.ran(2), 0);
    }

    private static void addressOfEdges() {
        Check.sentence("Y its 12 lowest (0 .. 4095)");
        SignedCore x = Check.machine(0, 0, Check.op(Check.LAC, 0));
        x.put(0, 77);
        x.run(1);
        Check.due("Y 0", x.told(0), 77);
        x = Check.machine(0, 0, Check.op(Check.LAC, 4095));
        x.put(4095, 78);
        x.run(1);
        Check.due("Y 4095", x.told(0), 78);
        x = Check.machine(79, 0, Check.op(Check.DAC, 4095));
        x.run(1);
        Check.due("DAC 4095", x.core(4095), 79);
        x = Check.machine(0, 0, Check.op(Check.JMP, 0));
        x.run(1);
        Check.due("JMP 0", x.told(2), 0);
        x = Check.machine(0, 0, Check.op(Check.JSP, 4095));
        x.run(1);
        Check.state("JSP 4095", x, 101, 0, 4095, 0);
    }

    private static void chainOfOneWord() {
        Check.sentence("else the chain: the lowest 12 bits of the word at Y");
        SignedCore x = Check.machine(0, 0, Check.opI(Check.LAC, 200), 201);
        x.put(201, 4096 + 9);
        x.run(1);
        Check.due("its ADDRESS", x.told(0), 4096 + 9);
        Check.due("one asked for", x.ran(2), 1);
    }

    private static void chainGoesOnSoLongAsThatWordHasI() {
        Check.sentence("again so long as that word has I");
        SignedCore x = Check.machine(0, 0, Check.opI(Check.LAC, 200), 4096 + 201);
        x.put(201, 4096 + 202);
        x.put(202, 203);
        x.put(203, 88);
        x.run(1);
        Check.due("its ADDRESS", x.told(0), 88);
        Check.due("three asked for", x.ran(2), 3);
    }

    private static void chainTakes12Bits() {
        Check.sentence("the lowest 12 bits of the word (its other bits but I tell nothing)");
        SignedCore x = Check.machine(0, 0, Check.opI(Check.LAC, 200), 262143 - 4096);
        x.put(4095, 66);
        x.run(1);
        Check.due("all ones but I", x.told(0), 66);
        Check.due("one asked for", x.ran(2), 1);
        x = Check.machine(0, 0, Check.opI(Check.LAC, 200), 262143);
        x.put(4095, 262143 - 4096 - 4095);
        x.put(0, 67);
        x.run(1);
        Check.due("all ones, then ADDRESS 0", x.told(0), 67);
        Check.due("two asked for", x.ran(2), 2);
    }

    /** AC 9, IO 8, at 100 the instruction with I, whose chain has so many words and ends at TARGET. */
    private static SignedCore withChain(int code, int links) {
        SignedCore x = Check.machine(9, 8, Check.opI(code, LINKS), 1234);
        chain(x, LINKS, links, TARGET);
        return x;
    }

    private static void chain(SignedCore x, int from, int links, int target) {
        for (int i = 0; i < links; i++) {
            x.put(from + i, i == links - 1 ? target : 4096 + from + i + 1);
        }
    }

    private static void chainOf32Words() {
        Check.sentence("CHAIN, if 33 words would be asked for (32 may)");
        for (int code : STARRED) {
            SignedCore x = withChain(code, 32);
            x.put(TARGET, Check.op(Check.LAW, 4));
            Check.due("code " + code, x.run(1), SignedCore.DONE);
            Check.due("asked for by " + code, x.ran(2), 32);
            Check.due("none halted by " + code, x.ran(6), SignedCore.NONE);
        }
        SignedCore x = withChain(Check.LAC, 32);
        x.run(1);
        Check.state("LAC", x, 1234, 8, 101, 0);
    }

    private static void chainOf33Words() {
        Check.sentence("CHAIN, if 33 words would be asked for");
        for (int code : STARRED) {
            SignedCore x = withChain(code, 33);
            x.set(3, 1);
            x.set(4, 42);
            int before = x.digest();
            Check.due("code " + code, x.run(3), SignedCore.CHAIN);
            Check.state("code " + code, x, 9, 8, 101, 1);
            Check.due("FLAGS by " + code, x.told(4), 42);
            Check.due("CORE by " + code, x.digest(), before);
            Check.due("STEPS by " + code, x.ran(0), 1);
            Check.due("asked for by " + code, x.ran(2), 32);
            Check.due("skips by " + code, x.ran(4), 0);
            Check.due("OVERFLOWS by " + code, x.ran(5), 0);
            Check.due("halted at by " + code, x.ran(6), 100);
        }
    }

    private static void chainHaltsEachStarred() {
        Check.sentence("CHAIN (a word that means itself)");
        for (int code : STARRED) {
            SignedCore x = Check.machine(5, 3, Check.opI(code, 200), 4096 + 200);
            int before = x.digest();
            Check.due("code " + code, x.run(1), SignedCore.CHAIN);
            Check.state("code " + code, x, 5, 3, 101, 0);
            Check.due("CORE by " + code, x.digest(), before);
        }
    }

    private static void chainsOfTwoInstructionsAreApart() {
        Check.sentence("33 words (of one chain)");
        SignedCore x = withChain(Check.LAC, 32);
        x.put(101, Check.opI(Check.LIO, LINKS));
        Check.due("both", x.run(2), SignedCore.DONE);
        Check.state("both", x, 1234, 1234, 102, 0);
        Check.due("asked for", x.ran(2), 64);
    }

    private static void xctIsDoneInPlace() {
        Check.sentence("XCT: C is done as an instruction in place of this one");
        SignedCore x = Check.did(5, 0, Check.op(Check.XCT, 200), Check.op(Check.SAS, 201));
        Check.due("no skip: PC behind XCT", x.told(2), 101);
        x = Check.did(0, 0, Check.op(Check.XCT, 200), Check.op(Check.SAS, 201));
        Check.due("skip: PC behind XCT", x.told(2), 102);
        Check.due("one STEP", x.ran(0), 1);
        x = Check.machine(0, 0, Check.op(Check.XCT, 200), Check.op(31, 256));
        Check.due("HALT", x.run(4), SignedCore.HALT);
        Check.due("of XCT its own", x.ran(6), 100);
        x = Check.machine(7, 6, Check.op(Check.XCT, 200), Check.op(Check.SHIFT, 4));
        Check.due("ILLEGAL", x.run(4), SignedCore.ILLEGAL);
        Check.state("ILLEGAL", x, 7, 6, 101, 0);
        Check.due("ILLEGAL: of XCT its own", x.ran(6), 100);
    }

    /** At 100 and on so many XCT, each of the next word; behind them LAW 77. */
    private static SignedCore xcts(int many) {
        SignedCore x = Check.machine(9, 8, 0);
        for (int i = 0; i < many; i++) {
            x.put(100 + i, Check.op(Check.XCT, 101 + i));
        }
        x.put(100 + many, Check.op(Check.LAW, 77));
        return x;
    }

    private static void xctOf32Words() {
        Check.sentence("CHAIN, if 33 words would be done so (32 may)");
        SignedCore x = xcts(32);
        Check.due("run", x.run(1), SignedCore.DONE);
        Check.state("32", x, 77, 8, 101, 0);
        Check.due("one STEP", x.ran(0), 1);
        Check.due("none halted", x.ran(6), SignedCore.NONE);
    }

    private static void xctOf33Words() {
        Check.sentence("CHAIN, if 33 words would be done so");
        SignedCore x = xcts(33);
        int before = x.digest();
        Check.due("run", x.run(5), SignedCore.CHAIN);
        Check.state("33", x, 9, 8, 101, 0);
        Check.due("CORE", x.digest(), before);
        Check.due("one STEP", x.ran(0), 1);
        Check.due("no chain of ADDRESSES", x.ran(2), 0);
        Check.due("halted at", x.ran(6), 100);
        Check.due("it goes on, one XCT fewer", x.run(1), SignedCore.DONE);
        Check.state("it goes on", x, 77, 8, 102, 0);
    }

    private static void xctOfItself() {
        Check.sentence("CHAIN, if 33 words would be done so (XCT of itself)");
        SignedCore x = Check.machine(9, 8, Check.op(Check.XCT, 100));
        Check.due("run", x.run(5), SignedCore.CHAIN);
        Check.state("itself", x, 9, 8, 101, 0);
        Check.due("halted at", x.ran(6), 100);
    }

    private static void xctChainAndChainOfWhatIsDone() {
        Check.sentence("33 words (XCT's chain and that of what it does are two)");
        SignedCore x = Check.machine(9, 8, Check.opI(Check.XCT, 300));
        chain(x, 300, 32, 150);
        x.put(150, Check.opI(Check.LAC, 340));
        chain(x, 340, 32, 160);
        x.put(160, 55);
        Check.due("32 and 32", x.run(1), SignedCore.DONE);
        Check.state("32 and 32", x, 55, 8, 101, 0);
        Check.due("asked for", x.ran(2), 64);
        chain(x, 340, 33, 160);
        x.set(2, 100);
        Check.due("32 and 33", x.run(1), SignedCore.CHAIN);
        Check.state("32 and 33", x, 55, 8, 101, 0);
        Check.due("32 and 33: halted at", x.ran(6), 100);
        Check.due("32 and 33: asked for", x.ran(2), 64);
    }

    private static void xctWithAnEndlessChain() {
        Check.sentence("4 XCT * (CHAIN of its own ADDRESS)");
        SignedCore x = Check.machine(9, 8, Check.opI(Check.XCT, 300));
        chain(x, 300, 33, 150);
        x.put(150, Check.op(Check.LAW, 1));
        Check.due("run", x.run(1), SignedCore.CHAIN);
        Check.state("33 words", x, 9, 8, 101, 0);
        Check.due("asked for", x.ran(2), 32);
        Check.due("halted at", x.ran(6), 100);
    }

    private static void calIs64() {
        Check.sentence("7 I 0 CAL: C of address 64 becomes AC, AC the PLACE, PC 65");
        int[] ys = {0, 64, 300, 4095};
        for (int y : ys) {
            SignedCore x = Check.machine(7, 6, Check.op(Check.CALL, y));
            x.run(1);
            Check.state("Y " + y, x, 101, 6, 65, 0);
            Check.due("C of 64, Y " + y, x.core(64), 7);
            Check.due("C of Y " + y, x.core(y), y == 64 ? 7 : 0);
        }
    }

    private static void jdaBehind4095() {
        Check.sentence("I 1 JDA: .. PC Y + 1 (12 bits)");
        SignedCore x = Check.machine(7, 6, Check.opI(Check.CALL, 4095));
        x.run(1);
        Check.state("Y 4095", x, 101, 6, 0, 0);
        Check.due("C of 4095", x.core(4095), 7);
        x = Check.machine(7, 6, Check.opI(Check.CALL, 4094));
        x.run(1);
        Check.state("Y 4094", x, 101, 6, 4095, 0);
        x = Check.machine(7, 6, Check.opI(Check.CALL, 0));
        x.run(1);
        Check.state("Y 0", x, 101, 6, 1, 0);
        Check.due("C of 0", x.core(0), 7);
    }

    private static void jdaHasNoChain() {
        Check.sentence("I 1 JDA: C of Y becomes AC");
        SignedCore x = Check.machine(7, 6, Check.opI(Check.CALL, 200), 4096 + 200);
        Check.due("run", x.run(1), SignedCore.DONE);
        Check.state("a word with I", x, 101, 6, 201, 0);
        Check.due("C", x.core(200), 7);
        Check.due("none asked for", x.ran(2), 0);
    }

    private static void placeHasOvAsBit0() {
        Check.sentence("THE PLACE is PC, and OV as bit 0");
        int[] words = {Check.op(Check.JSP, 50), Check.op(Check.CALL, 0), Check.opI(Check.CALL, 50)};
        for (int w : words) {
            for (int ov = 0; ov <= 1; ov++) {
                SignedCore x = Check.machine(262143, 0, w);
                x.set(3, ov);
                x.run(1);
                Check.due("AC by " + w, x.told(0), 101 + ov * SIGN);
                Check.due("OV by " + w, x.told(3), ov);
            }
        }
    }
}
