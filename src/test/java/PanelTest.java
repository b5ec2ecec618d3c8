/** Promises 5 to 9: told, set, switches, type, ask. */
public final class PanelTest {
    private static final int[] MOST = {262143, 262143, 4095, 1, 63, 1};

    private PanelTest() {
    }

    public static void main(String[] args) {
        setAndTold();
        refusals();
        switches();
        type();
        typeRefusesInOrder();
        ask();
        Check.finish();
    }

    private static void setAndTold() {
        for (int what = 0; what <= 5; what++) {
            SignedCore x = new SignedCore();
            Check.due("set " + what, x.set(what, MOST[what]), 0);
            Check.due("set again " + what, x.set(what, 1), MOST[what]);
            Check.due("set back " + what, x.set(what, MOST[what]), 1);
            for (int other = 0; other <= 7; other++) {
                Check.due("told " + other + " after set " + what, x.told(other), other == what ? MOST[what] : 0);
            }
            Check.due("set to 0 " + what, x.set(what, 0), MOST[what]);
            Check.due("told 0 " + what, x.told(what), 0);
        }
    }

    private static void refusals() {
        SignedCore x = new SignedCore();
        for (int what = 0; what <= 5; what++) {
            x.set(what, 1);
            Check.due("too much " + what, x.set(what, MOST[what] + 1), -1);
            Check.due("below 0 " + what, x.set(what, -1), -1);
            Check.due("least " + what, x.set(what, Integer.MIN_VALUE), -1);
            Check.due("most " + what, x.set(what, Integer.MAX_VALUE), -1);
            Check.due("unchanged " + what, x.told(what), 1);
        }
        int[] bad = {-1, 8, Integer.MIN_VALUE, Integer.MAX_VALUE};
        for (int what : bad) {
            Check.due("told " + what, x.told(what), -1);
            Check.due("set " + what, x.set(what, 0), -1);
        }
        Check.due("set 6", x.set(6, 1), -1);
        Check.due("set 7", x.set(7, 1), -1);
        Check.due("told 6", x.told(6), 0);
        Check.due("told 7", x.told(7), 0);
    }

    private static void switches() {
        SignedCore x = Check.machine(0, 0, Check.op(Check.OPR, 1024));
        Check.due("first", x.switches(63, 262143), 0);
        Check.due("second", x.switches(5, 12), 63);
        int[] badBits = {-1, 64, Integer.MIN_VALUE, Integer.MAX_VALUE};
        for (int b : badBits) {
            Check.due("bits " + b, x.switches(b, 0), -1);
        }
        int[] badTest = {-1, 262144, Integer.MIN_VALUE, Integer.MAX_VALUE};
        for (int t : badTest) {
            Check.due("test " + t, x.switches(0, t), -1);
        }
        x.run(1);
        Check.due("THE TEST WORD is unchanged", x.told(0), 12);
        Check.due("SWITCHES are unchanged", x.switches(0, 0), 5);
    }

    private static void type() {
        SignedCore x = Check.machine(0, 99, Check.op(Check.IOT, 4));
        x.put(101, Check.op(Check.JMP, 100));
        Check.due("one", x.type(63), 1);
        Check.due("two", x.type(0), 2);
        Check.due("three", x.type(7), 3);
        x.run(1);
        Check.due("first sign", x.told(1), 63);
        Check.due("three wait again", x.type(8), 3);
        x.run(2);
        Check.due("second sign", x.told(1), 0);
        x.run(2);
        Check.due("third sign", x.told(1), 7);
        x.run(2);
        Check.due("fourth sign", x.told(1), 8);
        x.run(2);
        Check.due("the end", x.told(1), 0);
        x.run(2);
        Check.due("one waits behind the end", x.type(9), 1);
        x.run(2);
        Check.due("fifth sign", x.told(1), 9);
    }

    private static void typeRefusesInOrder() {
        SignedCore x = Check.machine(0, 0, Check.op(Check.IOT, 4));
        x.put(101, Check.op(Check.JMP, 100));
        int[] bad = {-1, 64, Integer.MIN_VALUE, Integer.MAX_VALUE};
        for (int s : bad) {
            Check.due("sign " + s, x.type(s), -1);
        }
        for (int i = 0; i < 100; i++) {
            Check.due("type " + i, x.type(i % 64), i + 1);
        }
        Check.due("the 101st", x.type(1), -3);
        Check.due("BAD ahead of FULL", x.type(64), -1);
        x.run(200);
        Check.due("100 ever", x.type(1), -3);
        Check.due("the last sign", x.told(1), 99 % 64);
        x.run(2);
        Check.due("no sign more", x.told(1), 0);
    }

    private static void ask() {
        SignedCore x = new SignedCore();
        Check.due("asked", x.ask(), 1);
        Check.due("told", x.told(6), 1);
        Check.due("asked again", x.ask(), 0);
        Check.due("told again", x.told(6), 1);
        Check.due("not under way", x.told(7), 0);
        Check.due("not on", x.told(5), 0);
    }
}
