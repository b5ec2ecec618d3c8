/** Promises 10 and 11: runs, their ends, what is told of them, and BREAKS. */
public final class RunTest {
    private static final int SIGN = Check.SIGN;

    private RunTest() {
    }

    public static void main(String[] args) {
        steps();
        refusals();
        goesOn();
        countsOfTheLatestRun();
        breakBegins();
        breakDoesNotBegin();
        breakEnds();
        breakAskedWhileUnderWay();
        breakBySigns();
        breakAndXct();
        Check.finish();
    }

    private static SignedCore looping() {
        return Check.machine(0, 0, Check.op(Check.JMP, 100));
    }

    private static void steps() {
        SignedCore x = looping();
        Check.due("5000 STEPS", x.run(5000), 0);
        Check.due("5000 STEPS: ran(0)", x.ran(0), 5000);
        Check.due("5000 STEPS: ran(6)", x.ran(6), -9);
        Check.due("1 STEP", x.run(1), 0);
        Check.due("1 STEP: ran(0)", x.ran(0), 1);
        Check.due("STEPS of all", x.ran(7), 5001);
        x = new SignedCore();
        x.set(2, 4095);
        x.put(4095, Check.op(Check.LAW, 3));
        x.put(0, Check.STOP);
        Check.due("behind 4095 comes 0", x.run(5), 1);
        Check.due("behind 4095: halted at", x.ran(6), 0);
        Check.due("behind 4095: PC", x.told(2), 1);
        Check.due("behind 4095: STEPS", x.ran(0), 2);
    }

    private static void refusals() {
        SignedCore x = looping();
        x.put(101, Check.STOP);
        x.set(2, 101);
        x.run(9);
        int[] bad = {0, -1, 5001, Integer.MIN_VALUE, Integer.MAX_VALUE};
        for (int n : bad) {
            Check.due("run(" + n + ")", x.run(n), -1);
        }
        Check.due("STEPS stay", x.ran(0), 1);
        Check.due("the halt stays", x.ran(6), 101);
        Check.due("all STEPS stay", x.ran(7), 1);
        Check.due("PC stays", x.told(2), 102);
        int[] badWhat = {-1, 8, Integer.MIN_VALUE, Integer.MAX_VALUE};
        for (int what : badWhat) {
            Check.due("ran(" + what + ")", x.ran(what), -1);
        }
    }

    private static void goesOn() {
        SignedCore x = Check.machine(0, 0, Check.STOP);
        x.put(102, Check.opI(Check.LAC, 103));
        x.put(103, 4096 + 103);
        Check.due("HALT", x.run(3), 1);
        Check.due("HALT: STEPS", x.ran(0), 1);
        Check.due("ILLEGAL", x.run(3), 3);
        Check.due("ILLEGAL at", x.ran(6), 101);
        Check.due("CHAIN", x.run(3), 2);
        Check.due("CHAIN at", x.ran(6), 102);
        x.put(103, Check.op(Check.LAW, 1));
        Check.due("no halt", x.run(1), 0);
        Check.due("no halt at", x.ran(6), -9);
        Check.due("halts at the last STEP", x.set(2, 100) == 104 ? x.run(1) : -99, 1);
        Check.due("STEPS of all", x.ran(7), 5);
    }

    private static void countsOfTheLatestRun() {
        SignedCore x = Check.machine(0, 0, Check.opI(Check.ADD, 200), 201);
        x.put(201, 131071);
        x.put(101, Check.op(Check.ADD, 201));
        x.put(102, Check.op(Check.SKP, 256));
        x.put(104, Check.op(Check.IOT, 7));
        x.put(105, Check.STOP);
        x.set(5, 1);
        x.put(3, Check.opI(Check.JMP, 1));
        x.ask();
        Check.due("all at once", x.run(100), 1);
        int[] first = {7, 1, 1, 1, 1, 1, 105, 7};
        for (int what = 0; what <= 7; what++) {
            Check.due("ran(" + what + ") of the first", x.ran(what), first[what]);
        }
        x.put(106, Check.op(Check.LAW, 1));
        x.run(1);
        int[] second = {1, 0, 0, 0, 0, 0, -9, 8};
        for (int what = 0; what <= 7; what++) {
            Check.due("ran(" + what + ") of the second", x.ran(what), second[what]);
        }
    }

    private static void breakBegins() {
        SignedCore x = Check.machine(9, 8, Check.op(Check.LAW, 5));
        x.set(3, 1);
        x.set(5, 1);
        x.ask();
        Check.due("the BREAK is a STEP", x.run(1), 0);
        Check.state("the BREAK", x, 9, 8, 3, 1);
        Check.due("C of 0", x.core(0), 9);
        Check.due("C of 1", x.core(1), SIGN + 100);
        Check.due("C of 2", x.core(2), 8);
        Check.due("on", x.told(5), 1);
        Check.due("asked for", x.told(6), 0);
        Check.due("under way", x.told(7), 1);
        Check.due("STEPS", x.ran(0), 1);
        Check.due("BREAKS", x.ran(1), 1);
    }

    private static void breakDoesNotBegin() {
        SignedCore x = looping();
        x.ask();
        x.run(3);
        Check.due("off: under way", x.told(7), 0);
        Check.due("off: asked for", x.told(6), 1);
        Check.due("off: BREAKS", x.ran(1), 0);
        x.set(5, 1);
        x.run(1);
        Check.due("on later: under way", x.told(7), 1);
        x = looping();
        x.set(5, 1);
        x.run(3);
        Check.due("not asked for: under way", x.told(7), 0);
    }

    private static void breakEnds() {
        SignedCore x = looping();
        x.set(5, 1);
        x.ask();
        x.run(1);
        x.put(1, SIGN + 4096 + 300);
        x.put(3, Check.opI(Check.JMP, 1));
        Check.due("the end", x.run(1), 0);
        Check.state("the end", x, 0, 0, 300, 1);
        Check.due("the end: under way", x.told(7), 0);
        Check.due("the end: no chain", x.ran(2), 0);
        Check.due("the end: BREAKS", x.ran(1), 0);
        x = looping();
        x.set(5, 1);
        x.set(3, 1);
        x.ask();
        x.run(1);
        x.put(1, 77);
        x.put(3, Check.op(Check.JMP, 1));
        x.run(1);
        Check.state("JMP without I ends nothing", x, 0, 0, 1, 1);
        Check.due("JMP without I: under way", x.told(7), 1);
        x.put(1, Check.opI(Check.JMP, 0));
        x.put(0, 55);
        x.run(1);
        Check.state("JMP I 0 ends nothing", x, 0, 0, 55, 1);
        Check.due("JMP I 0: under way", x.told(7), 1);
        x.put(1, 77);
        x.put(55, Check.opI(Check.JSP, 1));
        x.run(1);
        Check.state("JSP I 1 ends nothing", x, SIGN + 56, 0, 77, 1);
        Check.due("JSP I 1: under way", x.told(7), 1);
        x.set(5, 0);
        x.put(77, Check.opI(Check.JMP, 1));
        x.run(1);
        Check.state("JMP I 1 ends it, off too", x, SIGN + 56, 0, 77, 0);
        Check.due("JMP I 1 ends it: under way", x.told(7), 0);
    }

    private static void breakAskedWhileUnderWay() {
        SignedCore x = looping();
        x.put(3, Check.op(Check.LAW, 6));
        x.put(4, Check.opI(Check.JMP, 1));
        x.set(5, 1);
        x.ask();
        x.run(1);
        Check.due("asked for while under way", x.ask(), 1);
        x.run(1);
        Check.due("none begins", x.told(2), 4);
        Check.due("still asked for", x.told(6), 1);
        x.run(2);
        Check.due("begins behind the end", x.told(2), 3);
        Check.due("AC of then", x.core(0), 6);
        Check.due("BREAKS", x.ran(1), 1);
        Check.due("under way again", x.told(7), 1);
        Check.due("no longer asked for", x.told(6), 0);
    }

    private static void breakBySigns() {
        SignedCore x = Check.machine(0, 0, Check.op(Check.IOT, 45));
        x.put(101, Check.op(Check.IOT, 44));
        x.put(102, Check.op(Check.IOT, 46));
        x.run(1);
        Check.due("45: on", x.told(5), 1);
        x.run(1);
        Check.due("44: off", x.told(5), 0);
        x.ask();
        x.run(1);
        Check.due("46: forgotten", x.told(6), 0);
        Check.due("asked for again", x.ask(), 1);
        x.set(2, 100);
        x.run(2);
        Check.due("45, then at once the BREAK", x.told(7), 1);
        Check.due("its PLACE", x.core(1), 101);
        x.ask();
        x.put(3, Check.op(Check.IOT, 46));
        x.put(4, Check.op(Check.IOT, 44));
        x.run(2);
        Check.due("46 leaves what is under way", x.told(7), 1);
        Check.due("46 forgets what is asked for", x.told(6), 0);
        Check.due("44 turns off", x.told(5), 0);
    }

    private static void breakAndXct() {
        SignedCore x = looping();
        x.set(5, 1);
        x.ask();
        x.run(1);
        x.put(3, Check.op(Check.XCT, 200));
        x.put(200, Check.opI(Check.JMP, 1));
        x.put(1, 4096 + 1);
        Check.due("XCT of the end", x.run(1), 0);
        Check.due("XCT of the end: PC", x.told(2), 1);
        Check.due("XCT of the end: under way", x.told(7), 0);
        Check.due("XCT of the end: no chain", x.ran(2), 0);
    }
}
