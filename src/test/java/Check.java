/** Compares answers with those that are due, and ends the program with 1 if one was not. */
final class Check {
    static final int AND = 1, IOR = 2, XOR = 3, XCT = 4, CALL = 7;
    static final int LAC = 8, LIO = 9, DAC = 10, DAP = 11, DIP = 12, DIO = 13, DZM = 14;
    static final int ADD = 16, SUB = 17, IDX = 18, ISP = 19, SAD = 20, SAS = 21, MUS = 22, DIS = 23;
    static final int JMP = 24, JSP = 25, SKP = 26, SHIFT = 27, LAW = 28, IOT = 29, OPR = 31;
    static final int STOP = op(OPR, 256);
    static final int MINUS_ZERO = 262143;
    static final int SIGN = 131072;

    private static int wrong = 0;
    private static int asked = 0;
    private static String sentence = "";

    private Check() {
    }

    /** The document's sentence that the next answers belong to, for what is printed of them. */
    static void sentence(String words) {
        sentence = "[" + words + "] ";
    }

    static void due(String what, long got, long want) {
        asked++;
        if (got != want) {
            wrong++;
            if (wrong <= 50) {
                System.out.println(sentence + what + ": answered " + got + ", due is " + want);
            }
        }
    }

    static boolean allWell() {
        return wrong == 0;
    }

    static void finish() {
        System.out.println(asked + " answers, " + wrong + " not as due");
        if (wrong != 0 || asked == 0) {
            System.exit(1);
        }
    }

    static int op(int code, int y) {
        return (code << 13) | y;
    }

    static int opI(int code, int y) {
        return (code << 13) | 4096 | y;
    }

    /** A new machine with AC, IO and one instruction at address 100, where PC stands. */
    static SignedCore machine(int ac, int io, int instruction) {
        SignedCore x = new SignedCore();
        x.set(0, ac);
        x.set(1, io);
        x.set(2, 100);
        x.put(100, instruction);
        return x;
    }

    /** As machine(..), with the word c at address 200. */
    static SignedCore machine(int ac, int io, int instruction, int c) {
        SignedCore x = machine(ac, io, instruction);
        x.put(200, c);
        return x;
    }

    /** Does the one instruction of machine(ac, io, instruction, c), which must not HALT. */
    static SignedCore did(int ac, int io, int instruction, int c) {
        SignedCore x = machine(ac, io, instruction, c);
        due("run of " + instruction, x.run(1), SignedCore.DONE);
        return x;
    }

    static void state(String what, SignedCore x, int ac, int io, int pc, int ov) {
        due(what + " AC", x.told(0), ac);
        due(what + " IO", x.told(1), io);
        due(what + " PC", x.told(2), pc);
        due(what + " OV", x.told(3), ov);
    }
}
