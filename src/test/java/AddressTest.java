/** Promises 10 and 11: ADDRESSES, chains, XCT, CAL, JDA, JMP, JSP. */
public final class AddressTest {
    private AddressTest() {
    }

    public static void main(String[] args) {
        chains();
        longChains();
        chainChangesNothing();
        executed();
        executedInARow();
        executedThroughChains();
        calls();
        jumps();
        Check.finish();
    }

    private static void chains() {
        SignedCore x = Check.machine(0, 0, Check.op(Check.LAC, 200), 4096 + 300);
        x.run(1);
        Check.due("no I", x.told(0), 4396);
        Check.due("no I: asked for", x.ran(2), 0);
        x = Check.machine(0, 0, Check.opI(Check.LAC, 200), 262143 - 4096);
        x.put(4095, 5);
        x.run(1);
        Check.due("12 bits of a word without I", x.told(0), 5);
        Check.due("one asked for", x.ran(2), 1);
        x = Check.machine(7, 0, Check.opI(Check.DAC, 200), 4096 + 300);
        x.put(300, 262143);
        x.put(4095, 400);
        x.run(1);
        Check.due("three words on", x.core(400), 7);
        Check.due("the words stay", x.core(300), 262143);
        Check.due("three asked for", x.ran(2), 3);
    }

    private static SignedCore withChain(int instruction, int links) {
        SignedCore x = Check.machine(9, 8, instruction);
        for (int i = 0; i < links - 1; i++) {
            x.put(200 + i, 4096 + 201 + i);
        }
        x.put(200 + links - 1, 50);
        x.put(50, 1234);
        return x;
    }

    private static void longChains() {
        SignedCore x = withChain(Check.opI(Check.LAC, 200), 32);
        Check.due("32 words", x.run(1), 0);
        Check.due("32 words: AC", x.told(0), 1234);
        Check.due("32 words: asked for", x.ran(2), 32);
        Check.due("32 words: none halted", x.ran(6), -9);
        x = withChain(Check.opI(Check.LAC, 200), 33);
        Check.due("33 words", x.run(5), 2);
        Check.state("33 words", x, 9, 8, 101, 0);
        Check.due("33 words: asked for", x.ran(2), 32);
        Check.due("33 words: steps", x.ran(0), 1);
        Check.due("33 words: halted at", x.ran(6), 100);
        x = withChain(Check.opI(Check.LAC, 200), 20);
        x.put(101, Check.opI(Check.LAC, 200));
        Check.due("20 and 20 words", x.run(2), 0);
        Check.due("20 and 20 words: asked for", x.ran(2), 40);
    }

    private static void chainChangesNothing() {
        for (int code = 1; code <= 25; code++) {
            SignedCore x = Check.machine(5, 3, Check.opI(code, 200), 4096 + 200);
            if (x.reads(Check.op(code, 0), 4) == 0) {
                continue;
            }
            int before = x.digest();
            Check.due("endless chain of " + code, x.run(3), 2);
            Check.state("endless chain of " + code, x, 5, 3, 101, 0);
            Check.due("endless chain of " + code + ": core", x.digest(), before);
            Check.due("endless chain of " + code + ": halted at", x.ran(6), 100);
            Check.due("endless chain of " + code + ": skips", x.ran(4), 0);
        }
    }

    private static void executed() {
        SignedCore x = Check.machine(0, 0, Check.op(Check.XCT, 200), Check.op(Check.SAD, 201));
        x.put(201, 5);
        x.run(1);
        Check.due("XCT of SAD skips behind XCT", x.told(2), 102);
        Check.due("XCT of SAD counts", x.ran(4), 1);
        x = Check.machine(0, 0, Check.op(Check.XCT, 200), Check.op(Check.JSP, 500));
        x.run(1);
        Check.state("XCT of JSP", x, 101, 0, 500, 0);
        x = Check.machine(0, 0, Check.op(Check.XCT, 200), Check.STOP);
        Check.due("XCT of HALT", x.run(9), 1);
        Check.due("XCT of HALT: halted at", x.ran(6), 100);
        Check.due("XCT of HALT: PC", x.told(2), 101);
        x = Check.machine(0, 0, Check.op(Check.XCT, 200), 0);
        Check.due("XCT of ILLEGAL", x.run(9), 3);
        Check.due("XCT of ILLEGAL: halted at", x.ran(6), 100);
        Check.due("XCT of ILLEGAL: PC", x.told(2), 101);
        x = Check.machine(3, 0, Check.op(Check.XCT, 200), Check.opI(Check.CALL, 300));
        x.run(1);
        Check.state("XCT of JDA", x, 101, 0, 301, 0);
        Check.due("XCT of JDA: C", x.core(300), 3);
    }

    private static SignedCore withXcts(int many) {
        SignedCore x = new SignedCore();
        for (int i = 0; i < many; i++) {
            x.put(i, Check.op(Check.XCT, i + 1));
        }
        x.put(many, Check.op(Check.LAW, 77));
        return x;
    }

    private static void executedInARow() {
        SignedCore x = withXcts(32);
        Check.due("32 words done so", x.run(1), 0);
        Check.state("32 words done so", x, 77, 0, 1, 0);
        x = withXcts(33);
        Check.due("33 words done so", x.run(1), 2);
        Check.state("33 words done so", x, 0, 0, 1, 0);
        Check.due("33 words done so: halted at", x.ran(6), 0);
        Check.due("33 words done so: asked for", x.ran(2), 0);
        Check.due("33 words done so: one step", x.ran(0), 1);
    }

    private static void executedThroughChains() {
        SignedCore x = Check.machine(0, 0, Check.opI(Check.XCT, 200), 300);
        x.put(300, Check.opI(Check.LAC, 301));
        x.put(301, 4096 + 302);
        x.put(302, 303);
        x.put(303, 44);
        x.run(1);
        Check.due("XCT by a chain", x.told(0), 44);
        Check.due("XCT by a chain: asked for", x.ran(2), 3);
        x.put(302, 4096 + 302);
        x.set(2, 100);
        Check.due("chain of the word that is done", x.run(1), 2);
        Check.due("chain of the word that is done: halted at", x.ran(6), 100);
        Check.due("chain of the word that is done: asked for", x.ran(2), 33);
    }

    private static void calls() {
        SignedCore x = Check.machine(7, 6, Check.op(Check.CALL, 300));
        x.set(3, 1);
        x.run(1);
        Check.state("CAL", x, Check.SIGN + 101, 6, 65, 1);
        Check.due("CAL: C of 64", x.core(64), 7);
        Check.due("CAL: C of Y", x.core(300), 0);
        x = Check.machine(7, 6, Check.opI(Check.CALL, 300));
        x.put(300, 4096 + 5);
        x.run(1);
        Check.state("JDA", x, 101, 6, 301, 0);
        Check.due("JDA: C of Y", x.core(300), 7);
        Check.due("JDA: no chain", x.ran(2), 0);
        x = Check.machine(7, 6, Check.opI(Check.CALL, 4095));
        x.run(1);
        Check.state("JDA to 4095", x, 101, 6, 0, 0);
        Check.due("JDA to 4095: C", x.core(4095), 7);
        x = new SignedCore();
        x.set(2, 4095);
        x.put(4095, Check.opI(Check.CALL, 10));
        x.run(1);
        Check.state("JDA from 4095", x, 0, 0, 11, 0);
    }

    private static void jumps() {
        SignedCore x = Check.machine(7, 6, Check.op(Check.JMP, 4095));
        x.run(1);
        Check.state("JMP", x, 7, 6, 4095, 0);
        x = Check.machine(7, 6, Check.opI(Check.JMP, 200), Check.SIGN + 300);
        x.run(1);
        Check.state("JMP by a chain", x, 7, 6, 300, 0);
        Check.due("JMP by a chain: asked for", x.ran(2), 1);
        x = Check.machine(7, 6, Check.opI(Check.JSP, 200), 300);
        x.set(3, 1);
        x.run(1);
        Check.state("JSP by a chain", x, Check.SIGN + 101, 6, 300, 1);
        x = Check.machine(7, 6, Check.op(Check.JSP, 300));
        x.run(1);
        Check.state("JSP", x, 101, 6, 300, 0);
        x = Check.machine(7, 6, Check.opI(Check.JMP, 1));
        x.put(1, Check.SIGN + 4096 + 2);
        x.put(2, 40);
        x.run(1);
        Check.state("JMP I 1 with no BREAK", x, 7, 6, 40, 0);
        Check.due("JMP I 1 with no BREAK: asked for", x.ran(2), 2);
    }
}
