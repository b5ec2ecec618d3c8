/** A machine of 18-bit words in one's complement, after the PDP-1; ../shared/DOC.md tells all of it. */
public final class SignedCore {
    public static final int BAD = -1, FULL = -3, NONE = -9;
    public static final int DONE = 0, HALT = 1, CHAIN = 2, ILLEGAL = 3;

    private static final int BAD_VALUE = -1000000;

    private static final int CORE_SIZE = 4096;
    private static final int LAST_ADDRESS = 4095;
    private static final int LAST_WORD = 262143;
    private static final int MINUS_ZERO = 262143;
    private static final int SIGN = 131072;
    private static final int MOST_VALUE = 131071;
    private static final int WORD_BITS = 18;
    private static final int ALL_SIX = 63;

    private static final int MOST_STEPS = 5000;
    private static final int MOST_IN_CHAIN = 32;
    private static final int MOST_IN_PLACE = 32;
    private static final int MOST_TYPED = 100;
    private static final int MOST_SENT = 64;
    private static final int POINTS_KEPT = 64;

    private static final int INDIRECT = 4096;
    private static final int CALL_CELL = 64;
    private static final int AC_CELL = 0, PLACE_CELL = 1, IO_CELL = 2, BREAK_START = 3;

    private static final int AND = 1, IOR = 2, XOR = 3, XCT = 4, CALL = 7;
    private static final int LAC = 8, LIO = 9, DAC = 10, DAP = 11, DIP = 12, DIO = 13, DZM = 14;
    private static final int ADD = 16, SUB = 17, IDX = 18, ISP = 19, SAD = 20, SAS = 21, MUS = 22, DIS = 23;
    private static final int JMP = 24, JSP = 25, SKP = 26, SHIFT = 27, LAW = 28, IOT = 29, OPR = 31;

    private final int[] cells;
    private int ac;
    private int io;
    private int pc;
    private int ov;
    private int flags;
    private int breakOn;
    private int breakAsked;
    private int breakUnderWay;
    private int switchBits;
    private int testWord;
    private final TypedRow typedRow;
    private final SentRow sentRow;
    private final Display display;
    private final Tally tally;

    public SignedCore() {
        cells = new int[CORE_SIZE];
        typedRow = new TypedRow();
        sentRow = new SentRow();
        display = new Display();
        tally = new Tally();
    }

    // ---- the public face ----

    public int put(int address, int w) {
        if (!isAddress(address) || !isWord(w)) {
            return BAD;
        }
        int before = fetch(address);
        store(address, w);
        return before;
    }

    public int core(int address) {
        return isAddress(address) ? fetch(address) : BAD;
    }

    public int load(int address, long words, int n) {
        if (!isAddress(address) || n < 1 || n > 3 || (words >>> (WORD_BITS * n)) != 0) {
            return BAD;
        }
        for (int i = 0; i < n; i++) {
            long w = words >>> (WORD_BITS * (n - 1 - i));
            store(address + i, (int) (w & LAST_WORD));
        }
        return n;
    }

    public int told(int what) {
        switch (what) {
            case 0: return ac;
            case 1: return io;
            case 2: return pc;
            case 3: return ov;
            case 4: return flags;
            case 5: return breakOn;
            case 6: return breakAsked;
            case 7: return breakUnderWay;
            default: return BAD;
        }
    }

    public int set(int what, int v) {
        if (what < 0 || what > 5 || v < 0 || v > mostOf(what)) {
            return BAD;
        }
        int before = told(what);
        switch (what) {
            case 0: ac = v; break;
            case 1: io = v; break;
            case 2: pc = v; break;
            case 3: ov = v; break;
            case 4: flags = v; break;
            default: breakOn = v; break;
        }
        return before;
    }

    public int switches(int bits, int test) {
        if (bits < 0 || bits > ALL_SIX || !isWord(test)) {
            return BAD;
        }
        int before = switchBits;
        switchBits = bits;
        testWord = test;
        return before;
    }

    public int type(int sign) {
        if (sign < 0 || sign > ALL_SIX) {
            return BAD;
        }
        return typedRow.append(sign) ? typedRow.waiting() : FULL;
    }

    public int ask() {
        int before = breakAsked;
        breakAsked = 1;
        return 1 - before;
    }

    public int run(int steps) {
        if (steps < 1 || steps > MOST_STEPS) {
            return BAD;
        }
        tally.begin();
        int end = DONE;
        for (int i = 0; i < steps && end == DONE; i++) {
            int at = pc;
            end = step();
            tally.countStep();
            if (end != DONE) {
                tally.haltedAt = at;
            }
        }
        return end;
    }

    public int ran(int what) {
        switch (what) {
            case 0: return tally.steps;
            case 1: return tally.breaks;
            case 2: return tally.chainWords;
            case 3: return tally.pointsPut;
            case 4: return tally.skips;
            case 5: return tally.overflows;
            case 6: return tally.haltedAt;
            case 7: return tally.allSteps;
            default: return BAD;
        }
    }

    public int point(int i, int what) {
        if (what < 0 || what > 1) {
            return BAD;
        }
        if (!display.keeps(i)) {
            return NONE;
        }
        return what == 0 ? display.xOf(i) : display.yOf(i);
    }

    public int points() {
        return display.total;
    }

    public int out(int i) {
        if (i < -2) {
            return BAD;
        }
        if (i == -2) {
            return sentRow.lost;
        }
        return i == -1 ? sentRow.count : sentRow.signAt(i);
    }

    public int value(int w) {
        if (!isWord(w)) {
            return BAD_VALUE;
        }
        return signOf(w) == 0 ? w : w - MINUS_ZERO;
    }

    public int word(int v) {
        if (v < -MOST_VALUE || v > MOST_VALUE) {
            return BAD;
        }
        return v < 0 ? v + MINUS_ZERO : v;
    }

    public int reads(int w, int what) {
        if (!isWord(w)) {
            return BAD;
        }
        switch (what) {
            case 0: return codeOf(w);
            case 1: return hasI(w) ? 1 : 0;
            case 2: return yOf(w);
            case 3: return onesOf(w);
            case 4: return hasAddress(w) ? 1 : 0;
            case 5: return isIllegal(w) ? 1 : 0;
            default: return BAD;
        }
    }

    public int digest() {
        int c = 0;
        for (int i = 0; i < CORE_SIZE; i++) {
            c = 31 * c + fetch(i);
        }
        return c;
    }

    // ---- words and instructions ----

    private static boolean isAddress(int address) {
        return address >= 0 && address <= LAST_ADDRESS;
    }

    private static boolean isWord(int w) {
        return w >= 0 && w <= LAST_WORD;
    }

    private static int mostOf(int what) {
        switch (what) {
            case 0:
            case 1: return LAST_WORD;
            case 2: return LAST_ADDRESS;
            case 4: return ALL_SIX;
            default: return 1;
        }
    }

    private static int signOf(int w) {
        return (w & SIGN) == 0 ? 0 : 1;
    }

    private static int not(int w) {
        return LAST_WORD - w;
    }

    private static int sum(int x, int y) {
        int s = x + y;
        return s > LAST_WORD ? s - LAST_WORD : s;
    }

    private static int withoutMinusZero(int w) {
        return w == MINUS_ZERO ? 0 : w;
    }

    private static int codeOf(int w) {
        return w >> 13;
    }

    private static boolean hasI(int w) {
        return (w & INDIRECT) != 0;
    }

    private static int yOf(int w) {
        return w & LAST_ADDRESS;
    }

    private static int onesOf(int w) {
        return Integer.bitCount(w & 511);
    }

    private static int shiftKindOf(int w) {
        return (w >> 9) & 15;
    }

    private static boolean hasAddress(int w) {
        int code = codeOf(w);
        return code >= AND && code <= XCT || code >= LAC && code <= DZM || code >= ADD && code <= JSP;
    }

    private static boolean isIllegal(int w) {
        switch (codeOf(w)) {
            case 0:
            case 5:
            case 6:
            case 15:
            case 30: return true;
            case SHIFT: return (shiftKindOf(w) & 3) == 0;
            default: return false;
        }
    }

    // ---- the machine's parts ----

    private int fetch(int address) {
        return cells[address & LAST_ADDRESS];
    }

    private void store(int address, int w) {
        cells[address & LAST_ADDRESS] = w;
    }

    private int place() {
        return ov == 0 ? pc : pc + SIGN;
    }

    private void advance() {
        pc = (pc + 1) & LAST_ADDRESS;
    }

    private void skipIf(boolean holds) {
        if (holds) {
            advance();
            tally.skips++;
        }
    }

    /** The ADDRESS that w means, or NONE if its chain is too long. */
    private int addressOf(int w) {
        int link = w;
        for (int asked = 0; asked < MOST_IN_CHAIN && hasI(link); asked++) {
            link = fetch(yOf(link));
            tally.chainWords++;
        }
        return hasI(link) ? NONE : yOf(link);
    }

    // ---- a step ----

    private int step() {
        if (breakAsked == 1 && breakOn == 1 && breakUnderWay == 0) {
            beginBreak();
            return DONE;
        }
        int w = fetch(pc);
        advance();
        int meant = followXct(w);
        return meant == NONE ? CHAIN : perform(meant);
    }

    private void beginBreak() {
        store(AC_CELL, ac);
        store(PLACE_CELL, place());
        store(IO_CELL, io);
        pc = BREAK_START;
        breakUnderWay = 1;
        breakAsked = 0;
        tally.breaks++;
    }

    private void endBreak() {
        int saved = fetch(PLACE_CELL);
        pc = yOf(saved);
        ov = signOf(saved);
        breakUnderWay = 0;
    }

    /** The word that is done in the end, itself no XCT, or NONE if that is too far. */
    private int followXct(int first) {
        int w = first;
        for (int inPlace = 0; inPlace <= MOST_IN_PLACE; inPlace++) {
            if (codeOf(w) != XCT) {
                return w;
            }
            int address = addressOf(w);
            if (address == NONE) {
                return NONE;
            }
            w = fetch(address);
        }
        return NONE;
    }

    private int perform(int w) {
        if (isIllegal(w)) {
            return ILLEGAL;
        }
        if (endsBreak(w)) {
            endBreak();
            return DONE;
        }
        if (!hasAddress(w)) {
            return performWithoutAddress(w);
        }
        int address = addressOf(w);
        if (address == NONE) {
            return CHAIN;
        }
        performAt(codeOf(w), address);
        return DONE;
    }

    private boolean endsBreak(int w) {
        return breakUnderWay == 1 && codeOf(w) == JMP && hasI(w) && yOf(w) == PLACE_CELL;
    }

    private int performWithoutAddress(int w) {
        switch (codeOf(w)) {
            case CALL: callAt(hasI(w) ? yOf(w) : CALL_CELL); return DONE;
            case SKP: skipIf(someHolds(yOf(w)) != hasI(w)); return DONE;
            case SHIFT: shift(shiftKindOf(w), onesOf(w)); return DONE;
            case LAW: ac = hasI(w) ? not(yOf(w)) : yOf(w); return DONE;
            case IOT: transfer(w & 63); return DONE;
            case OPR: return operate(yOf(w));
            default: return ILLEGAL;
        }
    }

    private void callAt(int address) {
        store(address, ac);
        ac = place();
        pc = (address + 1) & LAST_ADDRESS;
    }

    // ---- instructions with an ADDRESS ----

    private void performAt(int code, int address) {
        int c = fetch(address);
        switch (code) {
            case AND: ac = ac & c; break;
            case IOR: ac = ac | c; break;
            case XOR: ac = ac ^ c; break;
            case LAC: ac = c; break;
            case LIO: io = c; break;
            case DAC: store(address, ac); break;
            case DAP: store(address, (c & ~LAST_ADDRESS) | (ac & LAST_ADDRESS)); break;
            case DIP: store(address, (c & LAST_ADDRESS) | (ac & ~LAST_ADDRESS)); break;
            case DIO: store(address, io); break;
            case DZM: store(address, 0); break;
            case ADD: add(c); break;
            case SUB: subtract(c); break;
            case IDX: index(address); break;
            case ISP: index(address); skipIf(signOf(ac) == 0); break;
            case SAD: skipIf(ac != c); break;
            case SAS: skipIf(ac == c); break;
            case MUS: multiplyStep(c); break;
            case DIS: divideStep(c); break;
            case JMP: pc = address; break;
            case JSP: ac = place(); pc = address; break;
            default: break;
        }
    }

    private void add(int c) {
        int s = sum(ac, c);
        noteOverflow(ac, c, s);
        ac = withoutMinusZero(s);
    }

    private void subtract(int c) {
        int s = sum(not(ac), c);
        noteOverflow(not(ac), c, s);
        ac = not(s);
    }

    private void noteOverflow(int x, int y, int s) {
        if (signOf(x) == signOf(y) && signOf(s) != signOf(x)) {
            ov = 1;
            tally.overflows++;
        }
    }

    private void index(int address) {
        int next = fetch(address) + 1;
        ac = next >= MINUS_ZERO ? next - MINUS_ZERO : next;
        store(address, ac);
    }

    private void multiplyStep(int c) {
        if ((io & 1) == 1) {
            ac = withoutMinusZero(sum(ac, c));
        }
        setBoth(both() >> 1);
    }

    private void divideStep(int c) {
        int in = 1 - signOf(ac);
        setBoth((both() << 1) | in);
        int s = in == 1 ? sum(ac, not(c)) : sum(sum(ac, c), 1);
        ac = withoutMinusZero(s);
    }

    // ---- instructions without an ADDRESS ----

    private boolean someHolds(int y) {
        boolean holds = (y & 64) != 0 && ac == 0
                || (y & 128) != 0 && signOf(ac) == 0
                || (y & 256) != 0 && signOf(ac) == 1
                || (y & 512) != 0 && ov == 0
                || (y & 1024) != 0 && signOf(io) == 0
                || isOff(switchBits, (y >> 3) & 7)
                || isOff(flags, y & 7);
        if ((y & 512) != 0) {
            ov = 0;
        }
        return holds;
    }

    /** Whether the n-th of six bits is 0; of n = 7 whether all are; n = 0 means none of them. */
    private static boolean isOff(int bits, int n) {
        if (n == 0) {
            return false;
        }
        return n == 7 ? bits == 0 : ((bits >> (n - 1)) & 1) == 0;
    }

    private long both() {
        return ((long) ac << WORD_BITS) | io;
    }

    private void setBoth(long w) {
        ac = (int) ((w >> WORD_BITS) & LAST_WORD);
        io = (int) (w & LAST_WORD);
    }

    private void shift(int kind, int times) {
        int way = kind >> 2;
        switch (kind & 3) {
            case 1: ac = (int) moved(ac, WORD_BITS, way, times); break;
            case 2: io = (int) moved(io, WORD_BITS, way, times); break;
            default: setBoth(moved(both(), 2 * WORD_BITS, way, times)); break;
        }
    }

    private static long moved(long w, int width, int way, int times) {
        long result = w;
        for (int i = 0; i < times; i++) {
            result = movedOnce(result, width, way);
        }
        return result;
    }

    private static long movedOnce(long w, int width, int way) {
        long top = 1L << (width - 1);
        long behindTop = top - 1;
        switch (way) {
            case 0: return ((w & behindTop) << 1) | (w >> (width - 1));
            case 1: return (w & top) | ((w << 1) & behindTop) | (w >> (width - 1));
            case 2: return (w >> 1) | ((w & 1) << (width - 1));
            default: return (w & top) | (w >> 1);
        }
    }

    private void transfer(int device) {
        switch (device) {
            case 3: sentRow.append(io & 63); break;
            case 4: io = typedRow.take(); break;
            case 7: display.show(ac >> 8, io >> 8); tally.pointsPut++; break;
            case 44: breakOn = 0; break;
            case 45: breakOn = 1; break;
            case 46: breakAsked = 0; break;
            default: break;
        }
    }

    private int operate(int y) {
        if ((y & 128) != 0) {
            ac = 0;
        }
        if ((y & 2048) != 0) {
            io = 0;
        }
        if ((y & 1024) != 0) {
            ac = ac | testWord;
        }
        if ((y & 64) != 0) {
            ac = ac | place();
        }
        if ((y & 512) != 0) {
            ac = not(ac);
        }
        setFlags(y & 7, (y & 8) != 0);
        return (y & 256) != 0 ? HALT : DONE;
    }

    private void setFlags(int n, boolean on) {
        if (n == 0) {
            return;
        }
        int meant = n == 7 ? ALL_SIX : 1 << (n - 1);
        flags = on ? flags | meant : flags & ~meant;
    }

    /** THE ROW: signs that were typed, and how many of them IN has taken. */
    private static final class TypedRow {
        private final int[] signs;
        private int count;
        private int taken;

        TypedRow() {
            signs = new int[MOST_TYPED];
        }

        boolean append(int sign) {
            if (count < 0 || count >= MOST_TYPED) {
                return false;
            }
            signs[count] = sign;
            count++;
            return true;
        }

        int waiting() {
            return count - taken;
        }

        int take() {
            if (taken < 0 || taken >= count || taken >= MOST_TYPED) {
                return 0;
            }
            int sign = signs[taken];
            taken++;
            return sign;
        }
    }

    /** OUT: the first signs that went out, and how many more were lost. */
    private static final class SentRow {
        private final int[] signs;
        private int count;
        private int lost;

        SentRow() {
            signs = new int[MOST_SENT];
        }

        void append(int sign) {
            if (count < 0 || count >= MOST_SENT) {
                lost++;
                return;
            }
            signs[count] = sign;
            count++;
        }

        int signAt(int i) {
            return i < 0 || i >= count || i >= MOST_SENT ? NONE : signs[i];
        }
    }

    /** The latest POINTS, in two rings. */
    private static final class Display {
        private final int[] xs;
        private final int[] ys;
        private int total;

        Display() {
            xs = new int[POINTS_KEPT];
            ys = new int[POINTS_KEPT];
        }

        void show(int x, int y) {
            int at = total & (POINTS_KEPT - 1);
            xs[at] = x;
            ys[at] = y;
            total++;
        }

        boolean keeps(int i) {
            return i >= 0 && i < POINTS_KEPT && i < total;
        }

        int xOf(int i) {
            return xs[slotOf(i)];
        }

        int yOf(int i) {
            return ys[slotOf(i)];
        }

        private int slotOf(int i) {
            return (total - 1 - i) & (POINTS_KEPT - 1);
        }
    }

    /** What is counted of the latest run, and the STEPS of all. */
    private static final class Tally {
        private int steps;
        private int breaks;
        private int chainWords;
        private int pointsPut;
        private int skips;
        private int overflows;
        private int haltedAt;
        private int allSteps;

        Tally() {
            haltedAt = NONE;
        }

        void begin() {
            steps = 0;
            breaks = 0;
            chainWords = 0;
            pointsPut = 0;
            skips = 0;
            overflows = 0;
            haltedAt = NONE;
        }

        void countStep() {
            steps++;
            allSteps++;
        }
    }
}
