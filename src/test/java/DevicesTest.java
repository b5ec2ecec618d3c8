/** Promises 12 to 14 (and IOT of promise 10): point, points, out. */
public final class DevicesTest {
    private DevicesTest() {
    }

    public static void main(String[] args) {
        onePoint();
        manyPoints();
        pointRefuses();
        out();
        outIsLost();
        otherTransfers();
        Check.finish();
    }

    private static void onePoint() {
        SignedCore x = Check.machine(262143 - 255 - 256, 511, Check.op(Check.IOT, 7));
        x.run(1);
        Check.due("x", x.point(0, 0), 1022);
        Check.due("y", x.point(0, 1), 1);
        Check.due("none such", x.point(1, 0), -9);
        Check.due("points", x.points(), 1);
        Check.due("of the run", x.ran(3), 1);
        Check.state("nothing else", x, 262143 - 255 - 256, 511, 101, 0);
        x.run(1);
        Check.due("points stay", x.points(), 1);
        Check.due("of the next run", x.ran(3), 0);
    }

    /** AC and IO grow by one point each time: points (1, 2), (2, 4), .. */
    private static SignedCore drawing() {
        SignedCore x = Check.machine(0, 0, Check.op(Check.ADD, 200), 256);
        x.put(101, Check.op(Check.DAC, 201));
        x.put(102, Check.op(Check.SHIFT, 512 + 1));
        x.put(103, Check.op(Check.DAC, 202));
        x.put(104, Check.op(Check.LIO, 202));
        x.put(105, Check.op(Check.LAC, 201));
        x.put(106, Check.op(Check.IOT, 7));
        x.put(107, Check.op(Check.JMP, 100));
        return x;
    }

    private static void manyPoints() {
        SignedCore x = drawing();
        for (int n = 1; n <= 70; n++) {
            x.run(8);
            Check.due("points", x.points(), n);
        }
        for (int i = 0; i < 64; i++) {
            Check.due("x of " + i, x.point(i, 0), 70 - i);
            Check.due("y of " + i, x.point(i, 1), 140 - 2 * i);
        }
        Check.due("not kept", x.point(64, 0), -9);
        Check.due("not kept, y", x.point(69, 1), -9);
        Check.due("none such", x.point(70, 0), -9);
        x = drawing();
        for (int n = 1; n <= 64; n++) {
            x.run(8);
        }
        Check.due("the first of 64", x.point(63, 0), 1);
        Check.due("none before it", x.point(64, 0), -9);
        x.run(8);
        Check.due("the second of 65", x.point(63, 0), 2);
        x = drawing();
        x.run(4000);
        Check.due("500 POINTS", x.points(), 500);
        Check.due("500 POINTS in one run", x.ran(3), 500);
        Check.due("the latest of 500", x.point(0, 0), 500);
        Check.due("the 64th latest of 500", x.point(63, 0), 437);
    }

    private static void pointRefuses() {
        SignedCore x = drawing();
        x.run(8);
        int[] badWhat = {-1, 2, Integer.MIN_VALUE, Integer.MAX_VALUE};
        for (int what : badWhat) {
            Check.due("what " + what, x.point(0, what), -1);
            Check.due("what " + what + " ahead of NONE", x.point(99, what), -1);
        }
        int[] none = {-1, 1, 64, Integer.MIN_VALUE, Integer.MAX_VALUE};
        for (int i : none) {
            Check.due("point " + i, x.point(i, 0), -9);
            Check.due("point " + i + ", y", x.point(i, 1), -9);
        }
    }

    private static void out() {
        SignedCore x = Check.machine(0, 262143 - 64, Check.op(Check.IOT, 3));
        x.put(101, Check.op(Check.IOT, 3));
        x.run(1);
        x.set(1, 64 + 5);
        x.run(1);
        Check.due("first", x.out(0), 63);
        Check.due("second", x.out(1), 5);
        Check.due("third", x.out(2), -9);
        Check.due("how many", x.out(-1), 2);
        Check.due("lost", x.out(-2), 0);
        Check.due("below", x.out(-3), -1);
        Check.due("far below", x.out(Integer.MIN_VALUE), -1);
        Check.due("far above", x.out(Integer.MAX_VALUE), -9);
        Check.due("IO stays", x.told(1), 69);
    }

    private static void outIsLost() {
        SignedCore x = Check.machine(0, 0, Check.op(Check.IOT, 3));
        x.put(101, Check.op(Check.JMP, 100));
        for (int i = 0; i < 64; i++) {
            x.set(1, 63 - i);
            x.run(2);
        }
        Check.due("64 went", x.out(-1), 64);
        Check.due("none is lost", x.out(-2), 0);
        x.set(1, 1);
        x.run(6);
        Check.due("64 kept", x.out(-1), 64);
        Check.due("three are lost", x.out(-2), 3);
        for (int i = 0; i < 64; i++) {
            Check.due("sign " + i, x.out(i), 63 - i);
        }
        Check.due("no 65th", x.out(64), -9);
    }

    private static void otherTransfers() {
        for (int device = 0; device <= 63; device++) {
            if (device == 3 || device == 4 || device == 7 || device >= 44 && device <= 46) {
                continue;
            }
            SignedCore x = Check.machine(300, 400, Check.opI(Check.IOT, 64 + device));
            x.type(5);
            x.set(5, 1);
            int before = x.digest();
            Check.due("IOT " + device, x.run(1), 0);
            Check.state("IOT " + device, x, 300, 400, 101, 0);
            Check.due("IOT " + device + ": core", x.digest(), before);
            Check.due("IOT " + device + ": on", x.told(5), 1);
            Check.due("IOT " + device + ": out", x.out(-1), 0);
            Check.due("IOT " + device + ": points", x.points(), 0);
            Check.due("IOT " + device + ": waiting", x.type(5), 2);
        }
        SignedCore x = Check.machine(0, 33, Check.opI(Check.IOT, 4032 + 3));
        x.run(1);
        Check.due("IOT by the lowest 6 bits alone", x.out(0), 33);
    }
}
