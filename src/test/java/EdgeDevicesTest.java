/** The boundary cases of THE ROW, the POINTS, OUT and of other IOT: a test for each sentence. */
public final class EdgeDevicesTest {
    private static final int MZ = Check.MINUS_ZERO;
    private static final int SIGN = Check.SIGN;

    private EdgeDevicesTest() {
    }

    public static void main(String[] args) {
        inTakesTheNextSign();
        inAtTheEndOfTheRow();
        inOfAnEmptyRow();
        inBehindTheEndAndMore();
        inOfAFullRow();
        pointTakesTenHighestBits();
        pointNoneBefore();
        points64AreKept();
        points65();
        pointsOfManyRounds();
        pointsOfTheRun();
        outTakesSixBits();
        outNoneBefore();
        out64Signs();
        out65Signs();
        outManyLost();
        iotByTheLowest6Bits();
        iotOthersNothing();
        Check.finish();
    }

    /** At 100 IOT of this device, at 101 JMP 100: run(2) is one turn, and PC is at 100 again. */
    private static SignedCore turning(int device) {
        SignedCore x = Check.machine(0, 0, Check.op(Check.IOT, device));
        x.put(101, Check.op(Check.JMP, 100));
        return x;
    }

    private static int taken(SignedCore x) {
        x.set(1, 99);
        x.run(2);
        return x.told(1);
    }

    private static void inTakesTheNextSign() {
        Check.sentence("4 IN: IO becomes the next sign of THE ROW that was told");
        SignedCore x = turning(4);
        x.type(63);
        x.type(0);
        x.type(1);
        x.set(0, MZ);
        Check.due("first", taken(x), 63);
        Check.due("second", taken(x), 0);
        Check.due("third", taken(x), 1);
        Check.state("IN", x, MZ, 1, 100, 0);
        x = turning(4);
        x.type(5);
        x.set(1, MZ);
        x.run(1);
        Check.due("all of IO", x.told(1), 5);
    }

    private static void inAtTheEndOfTheRow() {
        Check.sentence("(0 at its end)");
        SignedCore x = turning(4);
        x.type(7);
        Check.due("the sign", taken(x), 7);
        Check.due("the end", taken(x), 0);
        Check.due("the end again", taken(x), 0);
    }

    private static void inOfAnEmptyRow() {
        Check.sentence("(0 at its end: nothing was told)");
        SignedCore x = turning(4);
        x.set(1, MZ);
        Check.due("run", x.run(1), SignedCore.DONE);
        Check.state("IN", x, 0, 0, 101, 0);
    }

    private static void inBehindTheEndAndMore() {
        Check.sentence("the next sign (at the end none is used up)");
        SignedCore x = turning(4);
        taken(x);
        taken(x);
        Check.due("one waits", x.type(8), 1);
        Check.due("two wait", x.type(9), 2);
        Check.due("first", taken(x), 8);
        Check.due("two wait again", x.type(10), 2);
        Check.due("second", taken(x), 9);
        Check.due("third", taken(x), 10);
        Check.due("the end", taken(x), 0);
    }

    private static void inOfAFullRow() {
        Check.sentence("A sign comes to THE ROW (100 ever)");
        SignedCore x = turning(4);
        for (int i = 0; i < 100; i++) {
            Check.due("type " + i, x.type(63 - i % 64), i + 1);
        }
        Check.due("FULL", x.type(0), SignedCore.FULL);
        for (int i = 0; i < 100; i++) {
            x.run(2);
            Check.due("sign " + i, x.told(1), 63 - i % 64);
        }
        Check.due("the end", taken(x), 0);
        Check.due("FULL though none waits", x.type(0), SignedCore.FULL);
        Check.due("none came", taken(x), 0);
    }

    private static void pointTakesTenHighestBits() {
        Check.sentence("7 a POINT is put: x the ten highest bits of AC, y of IO");
        int[][] rows = {{0, 0}, {255, 0}, {256, 1}, {511, 1}, {SIGN - 1, 511}, {SIGN, 512}, {MZ - 256, 1022},
            {MZ - 255, 1023}, {MZ, 1023}};
        for (int[] row : rows) {
            SignedCore x = Check.did(row[0], 512, Check.op(Check.IOT, 7), 0);
            Check.due("x of " + row[0], x.point(0, 0), row[1]);
            Check.due("y beside it", x.point(0, 1), 2);
            Check.state("AC " + row[0], x, row[0], 512, 101, 0);
            x = Check.did(512, row[0], Check.op(Check.IOT, 7), 0);
            Check.due("y of " + row[0], x.point(0, 1), row[1]);
            Check.due("x beside it", x.point(0, 0), 2);
        }
    }

    private static void pointNoneBefore() {
        Check.sentence("NONE: none such (no POINT was put)");
        SignedCore x = turning(7);
        Check.due("x", x.point(0, 0), SignedCore.NONE);
        Check.due("y", x.point(0, 1), SignedCore.NONE);
        Check.due("points", x.points(), 0);
        x.run(1);
        Check.due("the first", x.point(0, 0), 0);
        Check.due("none before it", x.point(1, 0), SignedCore.NONE);
        Check.due("points then", x.points(), 1);
    }

    /** The n-th POINT is (n, 1023 - n), n from 1. */
    private static SignedCore drawn(int many) {
        SignedCore x = turning(7);
        for (int n = 1; n <= many; n++) {
            x.set(0, (n << 8) + 255);
            x.set(1, (1023 - n) << 8);
            x.run(2);
        }
        return x;
    }

    private static void kept(SignedCore x, int many) {
        for (int i = 0; i < 64; i++) {
            Check.due("x of " + i + ", " + many + " put", x.point(i, 0), many - i);
            Check.due("y of " + i + ", " + many + " put", x.point(i, 1), 1023 - many + i);
        }
    }

    private static void points64AreKept() {
        Check.sentence("POINTS: the latest 64 are kept (64 were put)");
        SignedCore x = drawn(64);
        kept(x, 64);
        Check.due("none such", x.point(64, 0), SignedCore.NONE);
        Check.due("none such, y", x.point(64, 1), SignedCore.NONE);
        Check.due("points", x.points(), 64);
        x = drawn(63);
        Check.due("the first of 63", x.point(62, 0), 1);
        Check.due("none before it", x.point(63, 0), SignedCore.NONE);
    }

    private static void points65() {
        Check.sentence("POINTS: the latest 64 are kept (65 were put)");
        SignedCore x = drawn(65);
        kept(x, 65);
        Check.due("not kept", x.point(64, 0), SignedCore.NONE);
        Check.due("not kept, y", x.point(64, 1), SignedCore.NONE);
        Check.due("none such", x.point(65, 0), SignedCore.NONE);
        Check.due("all were put", x.points(), 65);
    }

    private static void pointsOfManyRounds() {
        Check.sentence("How many POINTS were put ever");
        SignedCore x = turning(7);
        x.set(0, 512);
        x.run(5000);
        Check.due("one run", x.points(), 2500);
        x.run(5000);
        Check.due("two runs", x.points(), 5000);
        x.set(0, 768);
        x.run(2);
        Check.due("the latest", x.point(0, 0), 3);
        Check.due("the one before", x.point(1, 0), 2);
        Check.due("the 64th latest", x.point(63, 0), 2);
        Check.due("the 65th latest", x.point(64, 0), SignedCore.NONE);
        Check.due("an early one", x.point(5000, 0), SignedCore.NONE);
    }

    private static void pointsOfTheRun() {
        Check.sentence("3 POINTS (of the latest run)");
        SignedCore x = turning(7);
        x.run(5000);
        Check.due("more than are kept", x.ran(3), 2500);
        x.run(1);
        Check.due("one", x.ran(3), 1);
        x.run(1);
        Check.due("none", x.ran(3), 0);
    }

    private static void outTakesSixBits() {
        Check.sentence("3 OUT: IO's lowest 6 bits go out");
        int[] ios = {0, 63, 64, 65, MZ, MZ - 63, SIGN};
        SignedCore x = turning(3);
        for (int i = 0; i < ios.length; i++) {
            x.set(0, MZ - ios[i]);
            x.set(1, ios[i]);
            x.run(2);
            Check.due("sign of " + ios[i], x.out(i), ios[i] % 64);
            Check.state("IO " + ios[i], x, MZ - ios[i], ios[i], 100, 0);
        }
    }

    private static void outNoneBefore() {
        Check.sentence("The i-th sign that went OUT; NONE: none such (none went)");
        SignedCore x = turning(3);
        Check.due("sign 0", x.out(0), SignedCore.NONE);
        Check.due("how many", x.out(-1), 0);
        Check.due("lost", x.out(-2), 0);
        x.run(1);
        Check.due("then sign 0", x.out(0), 0);
        Check.due("then sign 1", x.out(1), SignedCore.NONE);
        Check.due("then how many", x.out(-1), 1);
    }

    /** The n-th sign is n * 5 (6 bits), n from 0. */
    private static SignedCore sent(int many) {
        SignedCore x = turning(3);
        for (int n = 0; n < many; n++) {
            x.set(1, n * 5);
            x.run(2);
        }
        return x;
    }

    private static void signs(SignedCore x, String what) {
        for (int n = 0; n < 64; n++) {
            Check.due(what + ": sign " + n, x.out(n), n * 5 % 64);
        }
        Check.due(what + ": no 65th", x.out(64), SignedCore.NONE);
        Check.due(what + ": how many", x.out(-1), 64);
    }

    private static void out64Signs() {
        Check.sentence("OUT: 64 signs ever (the 64th goes out)");
        SignedCore x = sent(63);
        Check.due("63: no 64th", x.out(63), SignedCore.NONE);
        Check.due("63: how many", x.out(-1), 63);
        x = sent(64);
        signs(x, "64");
        Check.due("none is lost", x.out(-2), 0);
    }

    private static void out65Signs() {
        Check.sentence("(others are lost, and counted) (the 65th)");
        SignedCore x = sent(65);
        signs(x, "65");
        Check.due("one is lost", x.out(-2), 1);
        x.run(1);
        Check.due("OUT is no halt", x.ran(6), SignedCore.NONE);
        Check.due("two are lost", x.out(-2), 2);
    }

    private static void outManyLost() {
        Check.sentence("(others are lost, and counted) (many)");
        SignedCore x = sent(64);
        x.run(5000);
        Check.due("2500 are lost", x.out(-2), 2500);
        x.run(5000);
        Check.due("5000 are lost", x.out(-2), 5000);
        signs(x, "5064");
    }

    private static void iotByTheLowest6Bits() {
        Check.sentence("IOT, by the lowest 6 bits of Y (I and the others tell nothing)");
        int[] rests = {0, 64, 4096 - 64, 4096, 8192 - 64};
        for (int rest : rests) {
            SignedCore x = Check.did(512, 256 + 9, Check.op(Check.IOT, rest + 3), 0);
            Check.due("OUT with " + rest, x.out(0), 9);
            x = Check.did(512, 256, Check.op(Check.IOT, rest + 7), 0);
            Check.due("POINT with " + rest, x.point(0, 0), 2);
            x = Check.did(512, 256, Check.op(Check.IOT, rest + 45), 0);
            Check.due("45 with " + rest, x.told(5), 1);
            Check.due("no chain with " + rest, x.ran(2), 0);
            x = Check.did(512, 256, Check.op(Check.IOT, rest + 4), 0);
            Check.due("IN with " + rest, x.told(1), 0);
        }
    }

    private static SignedCore ready(int instruction) {
        SignedCore x = Check.machine(300, 400, instruction);
        x.set(3, 1);
        x.set(4, 21);
        x.type(5);
        x.ask();
        return x;
    }

    private static void iotOthersNothing() {
        Check.sentence("IOT .. (others: nothing)");
        for (int device = 0; device <= 63; device++) {
            if (device == 3 || device == 4 || device == 7 || device >= 44 && device <= 46) {
                continue;
            }
            SignedCore x = ready(Check.op(Check.IOT, device));
            Check.due("device " + device, x.run(1), SignedCore.DONE);
            Check.state("device " + device, x, 300, 400, 101, 1);
            SignedCore other = ready(Check.op(Check.SKP, 0));
            other.run(1);
            other.put(100, Check.op(Check.IOT, device));
            Check.due("device " + device + " is as SKP of nothing", Held.alike(x, other) ? 1 : 0, 1);
        }
    }
}
