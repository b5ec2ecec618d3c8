import java.math.BigInteger;
import java.util.ArrayDeque;
import java.util.ArrayList;
import java.util.Arrays;
import java.util.List;

/**
 * The document once more, written another way: words are texts of 18 bits, instructions are done by
 * recursion, and a step that CHAINS or is ILLEGAL is thrown out. For tests alone.
 */
final class Model {
    private static final class Halted extends Exception {
        private static final long serialVersionUID = 1L;
        private final int how;

        Halted(int how) {
            super("halted", null, false, false);
            this.how = how;
        }
    }

    private final String[] core = new String[4096];
    private String ac = bits(0);
    private String io = bits(0);
    private int pc = 0;
    private boolean ov = false;
    private final boolean[] flag = new boolean[7];
    private final boolean[] swit = new boolean[7];
    private String test = bits(0);
    private boolean on = false;
    private boolean asked = false;
    private boolean underWay = false;
    private final ArrayDeque<Integer> row = new ArrayDeque<>();
    private int typed = 0;
    private final List<Integer> sent = new ArrayList<>();
    private final List<int[]> drawn = new ArrayList<>();
    private int[] counts = {0, 0, 0, 0, 0, 0, -9, 0};

    Model() {
        Arrays.fill(core, bits(0));
    }

    static String bits(int w) {
        String text = Integer.toBinaryString(w);
        return "000000000000000000".substring(text.length()) + text;
    }

    static int num(String bits) {
        return Integer.parseInt(bits, 2);
    }

    private static String not(String w) {
        return w.replace('0', 'x').replace('1', '0').replace('x', '1');
    }

    private static boolean minus(String w) {
        return w.startsWith("1");
    }

    private static String sum(String x, String y) {
        int s = num(x) + num(y);
        return bits(s <= 262143 ? s : s - 262143);
    }

    private static String plusZero(String w) {
        return w.contains("0") ? w : bits(0);
    }

    int put(int address, int w) {
        if (address < 0 || address > 4095 || w < 0 || w > 262143) {
            return -1;
        }
        int was = num(core[address]);
        core[address] = bits(w);
        return was;
    }

    int core(int address) {
        return address < 0 || address > 4095 ? -1 : num(core[address]);
    }

    int load(int address, long words, int n) {
        if (address < 0 || address > 4095 || n < 1 || n > 3 || words < 0) {
            return -1;
        }
        String text = BigInteger.valueOf(words).toString(2);
        if (text.length() > 18 * n) {
            return -1;
        }
        text = "0".repeat(18 * n - text.length()) + text;
        for (int i = 0; i < n; i++) {
            core[(address + i) % 4096] = text.substring(18 * i, 18 * i + 18);
        }
        return n;
    }

    private static int packed(boolean[] six) {
        int v = 0;
        for (int n = 6; n >= 1; n--) {
            v = 2 * v + (six[n] ? 1 : 0);
        }
        return v;
    }

    private static void unpack(int v, boolean[] six) {
        int rest = v;
        for (int n = 1; n <= 6; n++) {
            six[n] = rest % 2 == 1;
            rest /= 2;
        }
    }

    int told(int what) {
        int[] all = {num(ac), num(io), pc, ov ? 1 : 0, packed(flag), on ? 1 : 0, asked ? 1 : 0, underWay ? 1 : 0};
        return what < 0 || what > 7 ? -1 : all[what];
    }

    int set(int what, int v) {
        int[] many = {262144, 262144, 4096, 2, 64, 2};
        if (what < 0 || what > 5 || v < 0 || v >= many[what]) {
            return -1;
        }
        int was = told(what);
        if (what == 0) {
            ac = bits(v);
        } else if (what == 1) {
            io = bits(v);
        } else if (what == 2) {
            pc = v;
        } else if (what == 3) {
            ov = v == 1;
        } else if (what == 4) {
            unpack(v, flag);
        } else {
            on = v == 1;
        }
        return was;
    }

    int switches(int bits, int word) {
        if (bits < 0 || bits > 63 || word < 0 || word > 262143) {
            return -1;
        }
        int was = packed(swit);
        unpack(bits, swit);
        test = bits(word);
        return was;
    }

    int type(int sign) {
        if (sign < 0 || sign > 63) {
            return -1;
        }
        if (typed == 100) {
            return -3;
        }
        typed++;
        row.addLast(sign);
        return row.size();
    }

    int ask() {
        boolean was = asked;
        asked = true;
        return was ? 0 : 1;
    }

    int run(int steps) {
        if (steps < 1 || steps > 5000) {
            return -1;
        }
        counts = new int[] {0, 0, 0, 0, 0, 0, -9, counts[7]};
        while (counts[0] < steps) {
            int at = pc;
            counts[0]++;
            counts[7]++;
            try {
                step();
            } catch (Halted h) {
                counts[6] = at;
                return h.how;
            }
        }
        return 0;
    }

    int ran(int what) {
        return what < 0 || what > 7 ? -1 : counts[what];
    }

    int point(int i, int what) {
        if (what != 0 && what != 1) {
            return -1;
        }
        return i < 0 || i >= Math.min(64, drawn.size()) ? -9 : drawn.get(drawn.size() - 1 - i)[what];
    }

    int points() {
        return drawn.size();
    }

    int out(int i) {
        if (i < -2) {
            return -1;
        }
        int kept = Math.min(64, sent.size());
        return i == -2 ? sent.size() - kept : i == -1 ? kept : i < kept ? sent.get(i) : -9;
    }

    int value(int w) {
        if (w < 0 || w > 262143) {
            return -1000000;
        }
        return minus(bits(w)) ? -num(not(bits(w))) : w;
    }

    int word(int v) {
        if (Math.abs((long) v) > 131071) {
            return -1;
        }
        return v >= 0 ? v : num(not(bits(-v)));
    }

    int reads(int w, int what) {
        if (w < 0 || w > 262143 || what < 0 || what > 5) {
            return -1;
        }
        String b = bits(w);
        int code = num(b.substring(0, 5));
        String star = "01111000111111101111111111000000";
        String illegal = "10000110000000010000000000000010";
        boolean is = illegal.charAt(code) == '1' || code == 27 && b.substring(7, 9).equals("00");
        int[] all = {code, b.charAt(5) - '0', num(b.substring(6)), ones(b), star.charAt(code) - '0', is ? 1 : 0};
        return all[what];
    }

    private static int ones(String b) {
        return b.substring(9).replace("0", "").length();
    }

    int digest() {
        BigInteger c = BigInteger.ZERO;
        BigInteger span = BigInteger.ONE.shiftLeft(32);
        for (String w : core) {
            c = c.multiply(BigInteger.valueOf(31)).add(BigInteger.valueOf(num(w))).mod(span);
        }
        return c.intValue();
    }

    private String place() {
        return (ov ? "1" : "0") + bits(pc).substring(1);
    }

    private void step() throws Halted {
        if (asked && on && !underWay) {
            core[0] = ac;
            core[1] = place();
            core[2] = io;
            pc = 3;
            underWay = true;
            asked = false;
            counts[1]++;
            return;
        }
        String w = core[pc];
        pc = (pc + 1) % 4096;
        perform(w, 0);
    }

    private int addressOf(String w) throws Halted {
        String link = w;
        int many = 0;
        while (link.charAt(5) == '1') {
            if (many == 32) {
                throw new Halted(2);
            }
            many++;
            counts[2]++;
            link = core[num(link.substring(6))];
        }
        return num(link.substring(6));
    }

    private void perform(String w, int doneSo) throws Halted {
        int code = num(w.substring(0, 5));
        boolean i = w.charAt(5) == '1';
        int y = num(w.substring(6));
        if (reads(num(w), 5) == 1) {
            throw new Halted(3);
        }
        if (code == 24 && i && y == 1 && underWay) {
            pc = num(core[1].substring(6));
            ov = minus(core[1]);
            underWay = false;
            return;
        }
        if (reads(num(w), 4) == 0) {
            others(w, code, i, y);
            return;
        }
        int a = addressOf(w);
        if (code == 4) {
            if (doneSo == 32) {
                throw new Halted(2);
            }
            perform(core[a], doneSo + 1);
            return;
        }
        if (code < 16) {
            moves(code, a);
        } else {
            reckons(code, a);
        }
    }

    private static String mixed(String x, String y, String ofNoneOneBoth) {
        StringBuilder text = new StringBuilder();
        for (int k = 0; k < 18; k++) {
            text.append(ofNoneOneBoth.charAt(x.charAt(k) - '0' + y.charAt(k) - '0'));
        }
        return text.toString();
    }

    private void moves(int code, int a) {
        String c = core[a];
        switch (code) {
            case 1: ac = mixed(ac, c, "001"); break;
            case 2: ac = mixed(ac, c, "011"); break;
            case 3: ac = mixed(ac, c, "010"); break;
            case 8: ac = c; break;
            case 9: io = c; break;
            case 10: core[a] = ac; break;
            case 11: core[a] = c.substring(0, 6) + ac.substring(6); break;
            case 12: core[a] = ac.substring(0, 6) + c.substring(6); break;
            case 13: core[a] = io; break;
            case 14: core[a] = bits(0); break;
            default: throw new IllegalStateException("code " + code);
        }
    }

    private void overflow(String x, String y) {
        if (minus(x) == minus(y) && minus(sum(x, y)) != minus(x)) {
            ov = true;
            counts[5]++;
        }
    }

    private void skip() {
        pc = (pc + 1) % 4096;
        counts[4]++;
    }

    private void reckons(int code, int a) {
        String c = core[a];
        switch (code) {
            case 16:
                overflow(ac, c);
                ac = plusZero(sum(ac, c));
                break;
            case 17:
                overflow(not(ac), c);
                ac = not(sum(not(ac), c));
                break;
            case 18:
            case 19:
                int n = num(c) + 1;
                ac = n == 262143 ? bits(0) : n == 262144 ? bits(1) : bits(n);
                core[a] = ac;
                if (code == 19 && !minus(ac)) {
                    skip();
                }
                break;
            case 20:
            case 21:
                if (ac.equals(c) == (code == 21)) {
                    skip();
                }
                break;
            case 22:
                ac = io.endsWith("1") ? plusZero(sum(ac, c)) : ac;
                setBoth(("0" + ac + io).substring(0, 36));
                break;
            case 23:
                boolean s = minus(ac);
                setBoth((ac + io).substring(1) + (s ? "0" : "1"));
                ac = plusZero(s ? sum(sum(ac, c), bits(1)) : sum(ac, not(c)));
                break;
            case 24:
                pc = a;
                break;
            case 25:
                ac = place();
                pc = a;
                break;
            default:
                throw new IllegalStateException("code " + code);
        }
    }

    private void setBoth(String both) {
        ac = both.substring(0, 18);
        io = both.substring(18);
    }

    private void others(String w, int code, boolean i, int y) throws Halted {
        switch (code) {
            case 7:
                int a = i ? y : 64;
                core[a] = ac;
                ac = place();
                pc = (a + 1) % 4096;
                break;
            case 26:
                if (holds(w) != i) {
                    skip();
                }
                break;
            case 27:
                for (int k = 0; k < ones(w); k++) {
                    shift(w.substring(5, 7), w.substring(7, 9));
                }
                break;
            case 28: ac = i ? not(bits(y)) : bits(y); break;
            case 29: transfer(y % 64); break;
            case 31: operate(w); break;
            default: throw new IllegalStateException("code " + code);
        }
    }

    private static boolean off(boolean[] six, int n) {
        if (n == 7) {
            return packed(six) == 0;
        }
        return n > 0 && !six[n];
    }

    /** In w, the bit of Y that is worth 2 to the n stands at 17 - n. */
    private static boolean has(String w, int n) {
        return w.charAt(17 - n) == '1';
    }

    private boolean holds(String w) {
        boolean any = false;
        any |= has(w, 6) && num(ac) == 0;
        any |= has(w, 7) && !minus(ac);
        any |= has(w, 8) && minus(ac);
        any |= has(w, 9) && !ov;
        any |= has(w, 10) && !minus(io);
        any |= off(swit, num(w.substring(12, 15)));
        any |= off(flag, num(w.substring(15)));
        ov = ov && !has(w, 9);
        return any;
    }

    private void shift(String way, String which) {
        if (which.equals("01")) {
            ac = shifted(ac, way);
        } else if (which.equals("10")) {
            io = shifted(io, way);
        } else {
            setBoth(shifted(ac + io, way));
        }
    }

    private static String shifted(String b, String way) {
        String sign = b.substring(0, 1);
        String last = b.substring(b.length() - 1);
        switch (way) {
            case "00": return b.substring(1) + sign;
            case "01": return sign + b.substring(2) + sign;
            case "10": return last + b.substring(0, b.length() - 1);
            default: return sign + b.substring(0, b.length() - 1);
        }
    }

    private void transfer(int device) {
        if (device == 7) {
            drawn.add(new int[] {num(ac.substring(0, 10)), num(io.substring(0, 10))});
            counts[3]++;
        } else if (device == 3) {
            sent.add(num(io.substring(12)));
        } else if (device == 4) {
            io = bits(row.isEmpty() ? 0 : row.removeFirst());
        } else if (device == 44 || device == 45) {
            on = device == 45;
        } else if (device == 46) {
            asked = false;
        }
    }

    private void operate(String w) throws Halted {
        ac = has(w, 7) ? bits(0) : ac;
        io = has(w, 11) ? bits(0) : io;
        ac = has(w, 10) ? mixed(ac, test, "011") : ac;
        ac = has(w, 6) ? mixed(ac, place(), "011") : ac;
        ac = has(w, 9) ? not(ac) : ac;
        int n = num(w.substring(15));
        for (int k = 1; k <= 6; k++) {
            if (k == n || n == 7) {
                flag[k] = has(w, 3);
            }
        }
        if (has(w, 8)) {
            throw new Halted(1);
        }
    }
}
