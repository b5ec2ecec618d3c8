/** Promises 1 to 18, the boundary cases that their own words name: a test for each sentence. */
public final class EdgeCallsTest {
    private static final int BAD = SignedCore.BAD;
    private static final int NONE = SignedCore.NONE;
    private static final int LEAST = Integer.MIN_VALUE;
    private static final int MOST = Integer.MAX_VALUE;

    private EdgeCallsTest() {
    }

    public static void main(String[] args) {
        newIsAll0();
        newMachineIsIllegalAt0();
        objectsAreApart();
        putTellsWhatItWas();
        putEdges();
        coreEdges();
        loadFirstOneFirst();
        loadLeavesOthers();
        loadBehind4095();
        loadOfAllBits();
        loadBitsAbove();
        loadN();
        toldEdges();
        toldFlags();
        setTellsWhatItWas();
        setWhat();
        setWhatItCannotBe();
        switchesTellWhatTheyWere();
        switchesEdges();
        typeEdges();
        type100Ever();
        askAnswers();
        runEdges();
        runUpToWhereItHalts();
        ranBeforeTheFirst();
        ranOfTheLatestRun();
        ranStepsOfAllRuns();
        ranSkips();
        ranEdges();
        pointEdges();
        outEdges();
        valueEdges();
        wordEdges();
        readsEdges();
        readsOnes();
        readsAddress();
        readsIllegal();
        digestOrder();
        digestIn32Bits();
        Check.finish();
    }

    private static void newIsAll0() {
        Check.sentence("1: All is 0");
        SignedCore x = new SignedCore();
        for (int i = 0; i <= 7; i++) {
            Check.due("told(" + i + ")", x.told(i), 0);
        }
        Check.due("digest", x.digest(), 0);
        Check.due("first word", x.core(0), 0);
        Check.due("last word", x.core(4095), 0);
        Check.due("points", x.points(), 0);
        Check.due("out(-1)", x.out(-1), 0);
        Check.due("out(-2)", x.out(-2), 0);
        Check.due("SWITCHES", x.switches(0, 0), 0);
        Check.due("THE ROW", x.type(1), 1);
        x = Check.machine(0, 0, Check.op(Check.OPR, 1024));
        x.run(1);
        Check.due("THE TEST WORD", x.told(0), 0);
    }

    private static void newMachineIsIllegalAt0() {
        Check.sentence("1: All is 0 (and 0 is ILLEGAL)");
        SignedCore x = new SignedCore();
        Check.due("run", x.run(5000), SignedCore.ILLEGAL);
        Check.due("STEPS", x.ran(0), 1);
        Check.due("halted at", x.ran(6), 0);
        Check.due("PC", x.told(2), 1);
    }

    private static void objectsAreApart() {
        Check.sentence("1: A new object");
        SignedCore used = new SignedCore();
        used.put(0, 262143);
        used.type(1);
        used.ask();
        used.switches(63, 1);
        used.run(1);
        newIsAll0();
    }

    private static void putTellsWhatItWas() {
        Check.sentence("2: A word of CORE becomes w: what it was");
        SignedCore x = new SignedCore();
        Check.due("it was 0", x.put(5, 262143), 0);
        Check.due("it was minus zero", x.put(5, 0), 262143);
        Check.due("it was 0 again", x.put(5, 0), 0);
        Check.due("beside it", x.core(4) + x.core(6), 0);
    }

    private static void putEdges() {
        Check.sentence("2: BAD");
        SignedCore x = new SignedCore();
        Check.due("address 0", x.put(0, 1), 0);
        Check.due("address 4095", x.put(4095, 2), 0);
        Check.due("address -1", x.put(-1, 3), BAD);
        Check.due("address 4096", x.put(4096, 3), BAD);
        Check.due("w 262143", x.put(0, 262143), 1);
        Check.due("w 262144", x.put(0, 262144), BAD);
        Check.due("w -1", x.put(0, -1), BAD);
        Check.due("4096 did not wrap around", x.core(0), 262143);
        Check.due("-1 did not wrap around", x.core(4095), 2);
    }

    private static void coreEdges() {
        Check.sentence("3: A word of CORE. BAD");
        SignedCore x = new SignedCore();
        x.put(0, 7);
        x.put(4095, 8);
        Check.due("0", x.core(0), 7);
        Check.due("4095", x.core(4095), 8);
        Check.due("-1", x.core(-1), BAD);
        Check.due("4096", x.core(4096), BAD);
        Check.due("least", x.core(LEAST), BAD);
        Check.due("most", x.core(MOST), BAD);
    }

    private static long three(long a, long b, long c) {
        return a << 36 | b << 18 | c;
    }

    private static void words(SignedCore x, int from, int... want) {
        for (int i = 0; i < want.length; i++) {
            int a = (from + i) % 4096;
            Check.due("word at " + a, x.core(a), want[i]);
        }
    }

    private static void loadFirstOneFirst() {
        Check.sentence("4: n words, 18 bits each, the last one lowest, .. the first one first: n");
        for (int n = 1; n <= 3; n++) {
            SignedCore x = new SignedCore();
            long words = n == 1 ? 3 : n == 2 ? three(0, 2, 3) : three(1, 2, 3);
            Check.due("n " + n, x.load(10, words, n), n);
            words(x, 9, 0, 4 - n, n > 1 ? 5 - n : 0, n > 2 ? 3 : 0, 0);
        }
    }

    private static void loadLeavesOthers() {
        Check.sentence("4: n words (words of 0 too, and no more than n)");
        SignedCore x = new SignedCore();
        for (int a = 9; a <= 14; a++) {
            x.put(a, 99);
        }
        Check.due("zeros", x.load(10, 0L, 3), 3);
        words(x, 9, 99, 0, 0, 0, 99, 99);
        Check.due("one", x.load(13, 5L, 1), 1);
        words(x, 12, 0, 5, 99);
        Check.due("first is 0", x.load(13, 6L, 2), 2);
        words(x, 13, 0, 6);
    }

    private static void loadBehind4095() {
        Check.sentence("4: (behind 4095 comes 0)");
        SignedCore x = new SignedCore();
        x.load(4095, three(1, 2, 3), 3);
        words(x, 4094, 0, 1, 2, 3, 0);
        x = new SignedCore();
        x.load(4094, three(1, 2, 3), 3);
        words(x, 4093, 0, 1, 2, 3, 0);
        x = new SignedCore();
        x.load(4093, three(1, 2, 3), 3);
        words(x, 4092, 0, 1, 2, 3, 0);
        x = new SignedCore();
        x.load(4095, three(0, 2, 3), 2);
        words(x, 4095, 2, 3, 0);
        x = new SignedCore();
        x.load(4095, 3, 1);
        words(x, 4095, 3, 0);
        Check.due("address 4096", x.load(4096, 9, 1), BAD);
        Check.due("address -1", x.load(-1, 9, 1), BAD);
        words(x, 4095, 3, 0);
    }

    private static void loadOfAllBits() {
        Check.sentence("4: 18 bits each (all of them 1)");
        for (int n = 1; n <= 3; n++) {
            SignedCore x = new SignedCore();
            Check.due("n " + n, x.load(0, (1L << 18 * n) - 1, n), n);
            words(x, 0, 262143, n > 1 ? 262143 : 0, n > 2 ? 262143 : 0, 0);
        }
    }

    private static void loadBitsAbove() {
        Check.sentence("4: BAD: also bits above these");
        SignedCore x = new SignedCore();
        for (int n = 1; n <= 3; n++) {
            for (int bit = 0; bit <= 63; bit++) {
                int want = bit < 18 * n ? n : BAD;
                Check.due("bit " + bit + " of " + n, x.load(bit * 3, 1L << bit, n), want);
            }
            Check.due("below 0, of " + n, x.load(0, -1L, n), BAD);
        }
    }

    private static void loadN() {
        Check.sentence("4: n (1 .. 3)");
        SignedCore x = new SignedCore();
        int[] bad = {LEAST, -1, 0, 4, MOST};
        for (int n : bad) {
            Check.due("n " + n, x.load(0, 1L, n), BAD);
        }
        Check.due("nothing came", x.digest(), 0);
    }

    private static void toldEdges() {
        Check.sentence("5: told .. 0 .. 7. BAD");
        SignedCore x = new SignedCore();
        int[] bad = {LEAST, -1, 8, MOST};
        for (int what : bad) {
            Check.due("told(" + what + ")", x.told(what), BAD);
        }
        Check.due("told(7)", x.told(7), 0);
    }

    private static void toldFlags() {
        Check.sentence("5: 4 FLAGS as bits (FLAG 1 the lowest)");
        for (int n = 1; n <= 6; n++) {
            SignedCore x = Check.did(0, 0, Check.op(Check.OPR, 8 + n), 0);
            Check.due("FLAG " + n, x.told(4), 1 << (n - 1));
        }
    }

    private static void setTellsWhatItWas() {
        Check.sentence("6: One of these (0 .. 5) becomes v: what it was");
        int[] most = {262143, 262143, 4095, 1, 63, 1};
        for (int what = 0; what <= 5; what++) {
            SignedCore x = new SignedCore();
            Check.due("most of " + what, x.set(what, most[what]), 0);
            Check.due("told " + what, x.told(what), most[what]);
            Check.due("least of " + what, x.set(what, 0), most[what]);
            Check.due("told then " + what, x.told(what), 0);
        }
    }

    private static void setWhat() {
        Check.sentence("6: (0 .. 5) BAD");
        SignedCore x = new SignedCore();
        int[] bad = {LEAST, -1, 6, 7, 8, MOST};
        for (int what : bad) {
            Check.due("set(" + what + ", 0)", x.set(what, 0), BAD);
            Check.due("set(" + what + ", 1)", x.set(what, 1), BAD);
        }
        Check.due("not asked for", x.told(6), 0);
        Check.due("not UNDER WAY", x.told(7), 0);
    }

    private static void setWhatItCannotBe() {
        Check.sentence("6: BAD: also what it cannot be");
        int[] most = {262143, 262143, 4095, 1, 63, 1};
        for (int what = 0; what <= 5; what++) {
            SignedCore x = new SignedCore();
            x.set(what, 1);
            Check.due("above, " + what, x.set(what, most[what] + 1), BAD);
            Check.due("below, " + what, x.set(what, -1), BAD);
            Check.due("least, " + what, x.set(what, LEAST), BAD);
            Check.due("most, " + what, x.set(what, MOST), BAD);
            Check.due("stays, " + what, x.told(what), 1);
        }
    }

    private static void switchesTellWhatTheyWere() {
        Check.sentence("7: SWITCHES and THE TEST WORD become these: what the SWITCHES were");
        SignedCore x = new SignedCore();
        Check.due("first", x.switches(63, 262143), 0);
        Check.due("second", x.switches(0, 0), 63);
        Check.due("third", x.switches(32, 0), 0);
        Check.due("fourth", x.switches(1, 0), 32);
    }

    private static void switchesEdges() {
        Check.sentence("7: BAD");
        SignedCore x = Check.machine(0, 0, Check.op(Check.OPR, 1024));
        x.switches(42, 262143);
        int[][] bad = {{-1, 0}, {64, 0}, {LEAST, 0}, {MOST, 0}, {0, -1}, {0, 262144}, {0, LEAST}, {0, MOST}, {64, -1}};
        for (int[] row : bad) {
            Check.due("switches(" + row[0] + ", " + row[1] + ")", x.switches(row[0], row[1]), BAD);
        }
        x.run(1);
        Check.due("THE TEST WORD stays", x.told(0), 262143);
        Check.due("the SWITCHES stay", x.switches(0, 0), 42);
    }

    private static void typeEdges() {
        Check.sentence("8: A sign (0 .. 63) comes to THE ROW: how many wait. BAD");
        SignedCore x = new SignedCore();
        Check.due("0", x.type(0), 1);
        Check.due("63", x.type(63), 2);
        int[] bad = {LEAST, -1, 64, MOST};
        for (int s : bad) {
            Check.due("type(" + s + ")", x.type(s), BAD);
        }
        Check.due("none of these waits", x.type(1), 3);
    }

    private static void type100Ever() {
        Check.sentence("8: (100 ever) FULL");
        SignedCore x = Check.machine(0, 0, Check.op(Check.IOT, 4));
        x.put(101, Check.op(Check.JMP, 100));
        for (int i = 1; i <= 99; i++) {
            x.type(1);
        }
        x.run(20);
        Check.due("the 100th", x.type(2), 90);
        Check.due("the 101st, though 90 wait", x.type(3), SignedCore.FULL);
        x.run(1000);
        Check.due("the 101st, though none waits", x.type(3), SignedCore.FULL);
    }

    private static void askAnswers() {
        Check.sentence("9: A BREAK is asked for: 1; it was: 0");
        SignedCore x = new SignedCore();
        Check.due("first", x.ask(), 1);
        Check.due("it was", x.ask(), 0);
        Check.due("it was, again", x.ask(), 0);
        Check.due("told", x.told(6), 1);
        x.set(5, 1);
        x.run(1);
        Check.due("not so, behind its begin", x.ask(), 1);
        Check.due("it was then", x.ask(), 0);
    }

    private static SignedCore looping() {
        return Check.machine(0, 0, Check.op(Check.JMP, 100));
    }

    private static void runEdges() {
        Check.sentence("10: So many STEPS (1 .. 5000). BAD");
        SignedCore x = looping();
        Check.due("1", x.run(1), SignedCore.DONE);
        Check.due("1: STEPS", x.ran(0), 1);
        Check.due("5000", x.run(5000), SignedCore.DONE);
        Check.due("5000: STEPS", x.ran(0), 5000);
        int[] bad = {LEAST, -1, 0, 5001, MOST};
        for (int n : bad) {
            Check.due("run(" + n + ")", x.run(n), BAD);
        }
        Check.due("STEPS stay", x.ran(0), 5000);
        Check.due("all STEPS stay", x.ran(7), 5001);
    }

    private static void runUpToWhereItHalts() {
        Check.sentence("10: or up to where it HALTS: how it ended");
        SignedCore x = Check.machine(0, 0, Check.op(Check.LAW, 1));
        x.put(101, Check.STOP);
        Check.due("one STEP short of it", x.run(1), SignedCore.DONE);
        Check.due("just it", x.run(1), SignedCore.HALT);
        x.set(2, 100);
        Check.due("with its last STEP", x.run(2), SignedCore.HALT);
        Check.due("with its last STEP: STEPS", x.ran(0), 2);
        x.set(2, 100);
        Check.due("well before the last", x.run(5000), SignedCore.HALT);
        Check.due("well before the last: STEPS", x.ran(0), 2);
    }

    private static void ranBeforeTheFirst() {
        Check.sentence("11: (0; 6: NONE before the first one.)");
        SignedCore x = new SignedCore();
        x.put(0, Check.STOP);
        Check.due("refused", x.run(0), BAD);
        for (int what = 0; what <= 7; what++) {
            Check.due("ran(" + what + ")", x.ran(what), what == 6 ? NONE : 0);
        }
    }

    private static void ranOfTheLatestRun() {
        Check.sentence("11: Of the latest run");
        SignedCore x = Check.machine(1, 0, Check.opI(Check.ADD, 200), 201);
        x.put(201, 131071);
        x.put(3, Check.opI(Check.JMP, 1));
        x.put(101, Check.op(Check.IOT, 7));
        x.put(102, Check.opI(Check.SKP, 0));
        x.put(104, Check.STOP);
        x.put(105, Check.op(Check.LAW, 0));
        x.set(5, 1);
        x.ask();
        Check.due("the first", x.run(9), SignedCore.HALT);
        int[] first = {6, 1, 1, 1, 1, 1, 104, 6};
        for (int what = 0; what <= 7; what++) {
            Check.due("ran(" + what + ")", x.ran(what), first[what]);
        }
        x.run(1);
        int[] second = {1, 0, 0, 0, 0, 0, NONE, 7};
        for (int what = 0; what <= 7; what++) {
            Check.due("then ran(" + what + ")", x.ran(what), second[what]);
        }
    }

    private static void ranStepsOfAllRuns() {
        Check.sentence("11: 0 STEPS (one that HALTS, too) .. 7 STEPS of all runs");
        SignedCore x = looping();
        x.run(5000);
        x.run(5000);
        x.run(5000);
        Check.due("three runs", x.ran(7), 15000);
        x.put(100, Check.STOP);
        x.run(10);
        Check.due("one that HALTS", x.ran(0), 1);
        Check.due("of all", x.ran(7), 15001);
    }

    private static void ranSkips() {
        Check.sentence("11: 4 how often SKP, ISP, SAD, SAS made PC one more");
        SignedCore x = Check.machine(0, 0, Check.op(Check.SKP, 64), 0);
        x.put(102, Check.op(Check.ISP, 200));
        x.put(104, Check.op(Check.SAD, 300));
        x.put(106, Check.op(Check.SAS, 200));
        x.put(108, Check.op(Check.SKP, 64));
        x.put(109, Check.op(Check.IDX, 200));
        x.put(110, Check.STOP);
        Check.due("run", x.run(20), SignedCore.HALT);
        Check.due("skips", x.ran(4), 4);
        Check.due("STEPS", x.ran(0), 7);
    }

    private static void ranEdges() {
        Check.sentence("11: BAD");
        SignedCore x = looping();
        x.run(1);
        int[] bad = {LEAST, -1, 8, MOST};
        for (int what : bad) {
            Check.due("ran(" + what + ")", x.ran(what), BAD);
        }
    }

    private static void pointEdges() {
        Check.sentence("12: x (what = 0), y (1); NONE: none such, or not kept. BAD: what");
        SignedCore x = Check.did(256, 512, Check.op(Check.IOT, 7), 0);
        Check.due("x", x.point(0, 0), 1);
        Check.due("y", x.point(0, 1), 2);
        int[] none = {LEAST, -1, 1, 63, 64, MOST};
        for (int i : none) {
            Check.due("point(" + i + ", 0)", x.point(i, 0), NONE);
            Check.due("point(" + i + ", 1)", x.point(i, 1), NONE);
        }
        int[] bad = {LEAST, -1, 2, MOST};
        for (int what : bad) {
            Check.due("point(0, " + what + ")", x.point(0, what), BAD);
            Check.due("point(1, " + what + "): BAD, not NONE", x.point(1, what), BAD);
            Check.due("point(-1, " + what + "): BAD, not NONE", x.point(-1, what), BAD);
        }
    }

    private static void outEdges() {
        Check.sentence("14: NONE: none such. i = -1: how many; -2: how many were lost. BAD: below that");
        SignedCore x = Check.did(0, 9, Check.op(Check.IOT, 3), 0);
        Check.due("out(0)", x.out(0), 9);
        Check.due("out(1)", x.out(1), NONE);
        Check.due("out(63)", x.out(63), NONE);
        Check.due("out(64)", x.out(64), NONE);
        Check.due("out(most)", x.out(MOST), NONE);
        Check.due("out(-1)", x.out(-1), 1);
        Check.due("out(-2)", x.out(-2), 0);
        Check.due("out(-3)", x.out(-3), BAD);
        Check.due("out(least)", x.out(LEAST), BAD);
    }

    private static void valueEdges() {
        Check.sentence("15: The value of a word (0 .. 262143). -1000000: BAD");
        SignedCore x = new SignedCore();
        int[][] rows = {{0, 0}, {131071, 131071}, {131072, -131071}, {262142, -1}, {262143, 0}, {-1, -1000000},
            {262144, -1000000}, {LEAST, -1000000}, {MOST, -1000000}};
        for (int[] row : rows) {
            Check.due("value(" + row[0] + ")", x.value(row[0]), row[1]);
        }
    }

    private static void wordEdges() {
        Check.sentence("16: The word of a value (-131071 .. 131071; 0 is 0). BAD");
        SignedCore x = new SignedCore();
        int[][] rows = {{0, 0}, {1, 1}, {-1, 262142}, {131071, 131071}, {-131071, 131072}, {131072, BAD},
            {-131072, BAD}, {-262143, BAD}, {LEAST, BAD}, {MOST, BAD}};
        for (int[] row : rows) {
            Check.due("word(" + row[0] + ")", x.word(row[0]), row[1]);
        }
    }

    private static void readsEdges() {
        Check.sentence("17: what = 0 CODE, 1 I, 2 Y. BAD");
        SignedCore x = new SignedCore();
        int[][] rows = {{0, 0, 0, 0}, {4095, 0, 0, 4095}, {4096, 0, 1, 0}, {8191, 0, 1, 4095}, {8192, 1, 0, 0},
            {131071, 15, 1, 4095}, {131072, 16, 0, 0}, {262143, 31, 1, 4095}};
        for (int[] row : rows) {
            for (int what = 0; what <= 2; what++) {
                Check.due("reads(" + row[0] + ", " + what + ")", x.reads(row[0], what), row[what + 1]);
            }
        }
        int[][] bad = {{-1, 0}, {262144, 0}, {LEAST, 5}, {MOST, 4}, {0, -1}, {0, 6}, {0, LEAST}, {0, MOST}, {-1, 6}};
        for (int[] row : bad) {
            Check.due("reads(" + row[0] + ", " + row[1] + ")", x.reads(row[0], row[1]), BAD);
        }
    }

    private static void readsOnes() {
        Check.sentence("17: 3 how many ones Y's lowest 9 bits have");
        SignedCore x = new SignedCore();
        int[][] rows = {{0, 0}, {1, 1}, {256, 1}, {511, 9}, {512, 0}, {262143 - 511, 0}, {262143, 9}, {341, 5}};
        for (int[] row : rows) {
            Check.due("reads(" + row[0] + ", 3)", x.reads(row[0], 3), row[1]);
        }
    }

    private static void readsAddress() {
        Check.sentence("17: 4 whether it has an ADDRESS (*, JDA not)");
        String starred = "01111000111111101111111111000000";
        SignedCore x = new SignedCore();
        for (int code = 0; code <= 31; code++) {
            int want = starred.charAt(code) - '0';
            Check.due("code " + code, x.reads(Check.op(code, 5), 4), want);
            Check.due("code " + code + " with I", x.reads(Check.opI(code, 5), 4), want);
        }
    }

    private static void readsIllegal() {
        Check.sentence("17: 5 whether it is ILLEGAL");
        SignedCore x = new SignedCore();
        String illegal = "10000110000000010000000000000010";
        for (int code = 0; code <= 31; code++) {
            if (code != 27) {
                int want = illegal.charAt(code) - '0';
                Check.due("code " + code, x.reads(Check.op(code, 4095), 5), want);
                Check.due("code " + code + " with I", x.reads(Check.opI(code, 0), 5), want);
            }
        }
        String kinds = "1000100010001000";
        for (int kind = 0; kind <= 15; kind++) {
            int want = kinds.charAt(kind) - '0';
            Check.due("kind " + kind, x.reads(Check.op(27, kind * 512), 5), want);
            Check.due("kind " + kind + " of nine", x.reads(Check.op(27, kind * 512 + 511), 5), want);
        }
    }

    private static void digestOrder() {
        Check.sentence("18: c being 0, for all words w in order c becomes 31 c and w");
        SignedCore x = new SignedCore();
        x.put(4095, 1);
        Check.due("the last word", x.digest(), 1);
        x.put(4094, 1);
        Check.due("the one before it", x.digest(), 32);
        x.put(4095, 0);
        Check.due("that alone", x.digest(), 31);
    }

    private static void digestIn32Bits() {
        Check.sentence("18: (32 bits)");
        SignedCore x = new SignedCore();
        int c = 1;
        for (int i = 0; i < 4095; i++) {
            c *= 31;
        }
        x.put(0, 1);
        Check.due("the first word", x.digest(), c);
        x.put(0, 262143);
        Check.due("the first word, most", x.digest(), 262143 * c);
        x.put(0, 0);
        x.put(4088, 262143);
        Check.due("it may be below 0", x.digest(), (int) (262143L * 31 * 31 * 31 * 31 * 31 * 31 * 31));
    }
}
