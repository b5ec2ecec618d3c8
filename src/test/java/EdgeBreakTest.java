/** "2 A STEP", the boundary cases of STEPS, BREAKS and halts: a test for each sentence. */
public final class EdgeBreakTest {
    private static final int SIGN = Check.SIGN;
    private static final int MZ = Check.MINUS_ZERO;
    private static final int END = Check.opI(Check.JMP, 1);

    private EdgeBreakTest() {
    }

    public static void main(String[] args) {
        begins();
        beginsOnlyIfAskedFor();
        beginsOnlyIfOn();
        beginsOnlyIfNoneIsUnderWay();
        isTheStep();
        placeIsPcItself();
        isNoLongerAskedFor();
        ends();
        endTakesOv();
        endHasNoChain();
        endNeedsOneUnderWay();
        endNeedsJmpWithIAndY1();
        endThroughXct();
        endIsNotHinderedByOff();
        askedForWhileUnderWay();
        askedForBehindAHalt();
        underWayOutlastsHalts();
        offAndOn();
        forgotten();
        haltsByHalt();
        haltsByChain();
        haltsByIllegal();
        goesOnWithTheNextRun();
        Check.finish();
    }

    /** AC 9, IO 8, OV 1, PC 100, where LAW 5 stands; THE BREAK is as told. */
    private static SignedCore machine(int on, boolean asked) {
        SignedCore x = Check.machine(9, 8, Check.op(Check.LAW, 5));
        x.set(3, 1);
        x.set(5, on);
        if (asked) {
            x.ask();
        }
        return x;
    }

    private static SignedCore underWay() {
        SignedCore x = machine(1, true);
        x.run(1);
        Check.due("UNDER WAY", x.told(7), 1);
        return x;
    }

    private static void breakIs(String what, SignedCore x, int on, int asked, int under) {
        Check.due(what + ": on", x.told(5), on);
        Check.due(what + ": asked for", x.told(6), asked);
        Check.due(what + ": UNDER WAY", x.told(7), under);
    }

    private static void begins() {
        Check.sentence("C of 0 becomes AC, of 1 the PLACE, of 2 IO; PC 3");
        SignedCore x = machine(1, true);
        x.put(0, 1);
        x.put(1, 2);
        x.put(2, 3);
        x.put(3, 4);
        Check.due("run", x.run(1), SignedCore.DONE);
        Check.due("C of 0", x.core(0), 9);
        Check.due("C of 1", x.core(1), SIGN + 100);
        Check.due("C of 2", x.core(2), 8);
        Check.due("C of 3", x.core(3), 4);
        Check.state("the BREAK", x, 9, 8, 3, 1);
    }

    private static void beginsOnlyIfAskedFor() {
        Check.sentence("if a BREAK is asked for");
        SignedCore x = machine(1, false);
        x.run(1);
        Check.state("not asked for", x, 5, 8, 101, 1);
        breakIs("not asked for", x, 1, 0, 0);
        Check.due("BREAKS", x.ran(1), 0);
    }

    private static void beginsOnlyIfOn() {
        Check.sentence("it is on");
        SignedCore x = machine(0, true);
        x.run(1);
        Check.state("off", x, 5, 8, 101, 1);
        breakIs("off", x, 0, 1, 0);
        Check.due("BREAKS", x.ran(1), 0);
        x.set(5, 1);
        x.run(1);
        breakIs("on later", x, 1, 0, 1);
        Check.due("its PLACE", x.core(1), SIGN + 101);
    }

    private static void beginsOnlyIfNoneIsUnderWay() {
        Check.sentence("and none is UNDER WAY");
        SignedCore x = underWay();
        x.put(3, Check.op(Check.LAW, 6));
        x.put(4, Check.op(Check.LAW, 7));
        x.ask();
        x.run(2);
        Check.state("one is", x, 7, 8, 5, 1);
        breakIs("one is", x, 1, 1, 1);
        Check.due("BREAKS", x.ran(1), 0);
        Check.due("C of 0 stays", x.core(0), 9);
        Check.due("C of 1 stays", x.core(1), SIGN + 100);
    }

    private static void isTheStep() {
        Check.sentence("(this is the STEP)");
        SignedCore x = machine(1, true);
        x.put(3, Check.STOP);
        x.run(1);
        Check.due("AC: no instruction is done", x.told(0), 9);
        Check.due("STEPS", x.ran(0), 1);
        Check.due("BREAKS", x.ran(1), 1);
        Check.due("none halted", x.ran(6), SignedCore.NONE);
        Check.due("the next STEP", x.run(1), SignedCore.HALT);
        Check.due("BREAKS of it", x.ran(1), 0);
        Check.due("halted at", x.ran(6), 3);
    }

    private static void placeIsPcItself() {
        Check.sentence("of 1 the PLACE (PC is not one more before)");
        int[] pcs = {0, 1, 4095};
        for (int pc : pcs) {
            SignedCore x = new SignedCore();
            x.set(0, MZ);
            x.set(1, MZ - 1);
            x.set(2, pc);
            x.set(5, 1);
            x.ask();
            x.run(1);
            Check.due("PC " + pc, x.core(1), pc);
            Check.due("AC, PC " + pc, x.core(0), MZ);
            Check.due("IO, PC " + pc, x.core(2), MZ - 1);
        }
    }

    private static void isNoLongerAskedFor() {
        Check.sentence("it is UNDER WAY, no longer asked for");
        SignedCore x = underWay();
        breakIs("begun", x, 1, 0, 1);
        Check.due("it can be asked for again", x.ask(), 1);
        Check.due("it was", x.ask(), 0);
    }

    private static void ends() {
        Check.sentence("JMP with I and Y 1 while one is UNDER WAY: PC becomes the lowest 12 bits of the word at 1");
        SignedCore x = underWay();
        x.put(3, END);
        Check.due("run", x.run(1), SignedCore.DONE);
        Check.state("back", x, 9, 8, 100, 1);
        breakIs("back", x, 1, 0, 0);
        x = underWay();
        x.put(1, MZ);
        x.put(3, END);
        x.run(1);
        Check.state("12 bits", x, 9, 8, 4095, 1);
    }

    private static void endTakesOv() {
        Check.sentence("OV bit 0 of it");
        SignedCore x = underWay();
        x.put(1, SIGN - 1);
        x.put(3, END);
        x.run(1);
        Check.state("0", x, 9, 8, 4095, 0);
        x = underWay();
        x.set(3, 0);
        x.put(1, SIGN);
        x.put(3, END);
        x.run(1);
        Check.state("1", x, 9, 8, 0, 1);
    }

    private static void endHasNoChain() {
        Check.sentence("(no chain)");
        SignedCore x = underWay();
        x.put(1, 4096 + 1);
        x.put(3, END);
        Check.due("run", x.run(1), SignedCore.DONE);
        Check.state("a word that means itself", x, 9, 8, 1, 0);
        Check.due("none asked for", x.ran(2), 0);
        x = underWay();
        x.put(1, 4096 + 50);
        x.put(50, 60);
        x.put(3, END);
        x.run(1);
        Check.due("not by its I", x.told(2), 50);
        Check.due("none asked for again", x.ran(2), 0);
    }

    private static void endNeedsOneUnderWay() {
        Check.sentence("while one is UNDER WAY");
        SignedCore x = machine(1, false);
        x.put(100, END);
        x.put(1, 4096 + 50);
        x.put(50, 60);
        x.run(1);
        Check.state("none is: a chain", x, 9, 8, 60, 1);
        Check.due("two asked for", x.ran(2), 2);
        x = machine(0, true);
        x.put(100, END);
        x.put(1, 4096 + 1);
        Check.due("none is: CHAIN", x.run(1), SignedCore.CHAIN);
        breakIs("none is: CHAIN", x, 0, 1, 0);
    }

    private static void endNeedsJmpWithIAndY1() {
        Check.sentence("JMP with I and Y 1");
        int[] others = {Check.op(Check.JMP, 1), Check.opI(Check.JMP, 0), Check.opI(Check.JMP, 2),
            Check.opI(Check.JSP, 1), Check.opI(Check.LAC, 1), Check.opI(Check.JMP, 4095)};
        for (int w : others) {
            SignedCore x = underWay();
            x.put(1, 77);
            x.put(3, w);
            Check.due("run of " + w, x.run(1), SignedCore.DONE);
            Check.due("OV by " + w, x.told(3), 1);
            breakIs("by " + w, x, 1, 0, 1);
        }
    }

    private static void endThroughXct() {
        Check.sentence("C is done .. in place of this one (the end of a BREAK)");
        SignedCore x = underWay();
        x.put(1, 4096 + 70);
        x.put(3, Check.op(Check.XCT, 200));
        x.put(200, END);
        x.run(1);
        Check.state("XCT", x, 9, 8, 70, 0);
        breakIs("XCT", x, 1, 0, 0);
        Check.due("none asked for", x.ran(2), 0);
    }

    private static void endIsNotHinderedByOff() {
        Check.sentence("while one is UNDER WAY (THE BREAK is off)");
        SignedCore x = underWay();
        x.set(5, 0);
        x.put(3, END);
        x.run(1);
        Check.state("off", x, 9, 8, 100, 1);
        breakIs("off", x, 0, 0, 0);
    }

    private static void askedForWhileUnderWay() {
        Check.sentence("a BREAK while one is UNDER WAY begins behind its end");
        SignedCore x = underWay();
        x.put(3, Check.op(Check.LAW, 6));
        x.put(4, END);
        x.ask();
        x.run(2);
        Check.state("ended", x, 6, 8, 100, 1);
        breakIs("ended", x, 1, 1, 0);
        x.run(1);
        Check.state("the next one", x, 6, 8, 3, 1);
        breakIs("the next one", x, 1, 0, 1);
        Check.due("BREAKS", x.ran(1), 1);
        Check.due("AC of then", x.core(0), 6);
        x.ask();
        x.put(101, Check.op(Check.JMP, 100));
        x.run(9);
        Check.due("one ends and one begins in a run of 9", x.ran(1), 1);
        Check.due("STEPS", x.ran(0), 9);
    }

    private static void askedForBehindAHalt() {
        Check.sentence("it goes on with the next run (with a BREAK, if one is asked for)");
        SignedCore x = machine(1, false);
        x.put(100, Check.STOP);
        x.run(1);
        x.ask();
        x.run(1);
        Check.due("PLACE behind the HALT", x.core(1), SIGN + 101);
        Check.due("PC", x.told(2), 3);
    }

    private static void underWayOutlastsHalts() {
        Check.sentence("The machine HALTS .. it goes on (a BREAK stays UNDER WAY)");
        int[] halts = {Check.STOP, 0, Check.opI(Check.LAC, 3)};
        for (int w : halts) {
            SignedCore x = underWay();
            x.put(3, w);
            x.put(4, END);
            Check.due("halts by " + w, x.run(5) == SignedCore.DONE ? 0 : 1, 1);
            breakIs("behind " + w, x, 1, 0, 1);
            x.run(1);
            breakIs("behind the end, " + w, x, 1, 0, 0);
        }
    }

    private static void offAndOn() {
        Check.sentence("44 THE BREAK is off, 45 on");
        SignedCore x = Check.machine(9, 8, Check.op(Check.IOT, 45));
        x.put(101, Check.op(Check.IOT, 45));
        x.put(102, Check.op(Check.IOT, 44));
        x.put(103, Check.op(Check.IOT, 44));
        int[] want = {1, 1, 0, 0};
        for (int i = 0; i < want.length; i++) {
            x.run(1);
            Check.due("behind " + i, x.told(5), want[i]);
        }
        Check.state("nothing else", x, 9, 8, 104, 0);
        x.ask();
        x.put(104, Check.op(Check.IOT, 45));
        x.run(2);
        breakIs("45, then at once the BREAK", x, 1, 0, 1);
        Check.due("its PLACE", x.core(1), 105);
        x.put(3, Check.op(Check.IOT, 44));
        x.run(1);
        breakIs("44 ends none", x, 0, 0, 1);
    }

    private static void forgotten() {
        Check.sentence("46 what is asked for is forgotten");
        SignedCore x = machine(0, true);
        x.put(100, Check.op(Check.IOT, 46));
        x.put(101, Check.op(Check.IOT, 46));
        x.run(1);
        breakIs("46", x, 0, 0, 0);
        x.run(1);
        breakIs("46 of none", x, 0, 0, 0);
        Check.due("asked for again", x.ask(), 1);
        x = underWay();
        x.ask();
        x.put(3, Check.op(Check.IOT, 46));
        x.run(1);
        breakIs("46 leaves the one that is UNDER WAY", x, 1, 0, 1);
    }

    private static void halts(SignedCore x, int end) {
        Check.due("run", x.run(5000), end);
        Check.due("STEPS", x.ran(0), 3);
        Check.due("halted at", x.ran(6), 102);
        Check.state("halted", x, 5, 8, 103, 0);
    }

    private static SignedCore haltingBy(int instruction) {
        SignedCore x = Check.machine(9, 8, Check.op(Check.LAW, 4));
        x.put(101, Check.op(Check.LAW, 5));
        x.put(102, instruction);
        x.put(103, Check.op(Check.LAW, 6));
        return x;
    }

    private static void haltsByHalt() {
        Check.sentence("The machine HALTS by HALT");
        halts(haltingBy(Check.STOP), SignedCore.HALT);
    }

    private static void haltsByChain() {
        Check.sentence("The machine HALTS by .. CHAIN");
        halts(haltingBy(Check.opI(Check.LAC, 102)), SignedCore.CHAIN);
        halts(haltingBy(Check.op(Check.XCT, 102)), SignedCore.CHAIN);
    }

    private static void haltsByIllegal() {
        Check.sentence("The machine HALTS by .. ILLEGAL");
        halts(haltingBy(0), SignedCore.ILLEGAL);
        halts(haltingBy(Check.op(Check.SHIFT, 1)), SignedCore.ILLEGAL);
    }

    private static void goesOnWithTheNextRun() {
        Check.sentence("it goes on with the next run");
        int[] words = {Check.STOP, Check.opI(Check.LAC, 102), 0};
        for (int w : words) {
            SignedCore x = haltingBy(w);
            x.run(9);
            Check.due("behind " + w, x.run(1), SignedCore.DONE);
            Check.state("behind " + w, x, 6, 8, 104, 0);
            Check.due("none halted behind " + w, x.ran(6), SignedCore.NONE);
            Check.due("STEPS of both, " + w, x.ran(7), 4);
        }
    }
}
