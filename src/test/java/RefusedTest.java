import java.util.ArrayList;
import java.util.List;

/**
 * "Refused, and nothing changes, the first of these: BAD (a number is not as told), FULL.": each call that is
 * refused leaves all that the object holds as it was, in several states; so do the questions.
 */
public final class RefusedTest {
    private static final int LEAST = Integer.MIN_VALUE;
    private static final int MOST = Integer.MAX_VALUE;
    private static final int[] OUTSIDE = {LEAST, -1000000, -2, -1, MOST};

    /** A call on an object. */
    private interface Call {
        int on(SignedCore x);
    }

    /** A call, what it is named, and its answer where that is known. */
    private static final class Row {
        final String name;
        final int want;
        final Call call;

        Row(String name, int want, Call call) {
            this.name = name;
            this.want = want;
            this.call = call;
        }
    }

    private RefusedTest() {
    }

    public static void main(String[] args) {
        refusedPuts();
        refusedLoads();
        refusedSets();
        refusedSwitches();
        refusedTypes();
        refusedRuns();
        refusedQuestions();
        fullRow();
        badAheadOfFull();
        questionsChangeNothing();
        refusedCallsCannotBeSeenLater();
        Check.finish();
    }

    /** A machine of which no part is 0 any more: it was run to a HALT while a BREAK is UNDER WAY. */
    private static SignedCore worn() {
        SignedCore x = new SignedCore();
        x.switches(21, 12345);
        int[] signs = {60, 61, 62, 63, 1};
        for (int s : signs) {
            x.type(s);
        }
        int[] program = {Check.op(Check.IOT, 4), Check.op(Check.IOT, 3), Check.op(Check.IOT, 7), Check.op(Check.ISP, 20),
            Check.op(Check.JMP, 4), Check.opI(Check.LAC, 21), Check.op(Check.ADD, 23), Check.op(Check.IOT, 4),
            Check.op(Check.OPR, 256 + 8 + 2)};
        for (int i = 0; i < program.length; i++) {
            x.put(3 + i, program[i]);
        }
        x.put(20, x.word(-70));
        x.put(21, 4096 + 22);
        x.put(22, 23);
        x.put(23, 131071);
        x.put(4095, 262143);
        x.set(0, 131072 + 256);
        x.set(2, 4000);
        x.set(5, 1);
        x.ask();
        Check.due("worn out", x.run(5000), SignedCore.HALT);
        x.ask();
        return x;
    }

    private static SignedCore full() {
        SignedCore x = worn();
        for (int i = 0; i < 95; i++) {
            x.type(i % 64);
        }
        return x;
    }

    private static void wornIsWorn() {
        SignedCore x = worn();
        for (int what = 0; what <= 7; what++) {
            Check.due("told(" + what + ") is not 0", x.told(what) != 0 ? 1 : 0, 1);
            Check.due("ran(" + what + ") is not 0", x.ran(what) != 0 ? 1 : 0, 1);
        }
        Check.due("points", x.points(), 70);
        Check.due("lost", x.out(-2), 6);
        Check.due("wait", x.type(9), 4);
    }

    private static void refused(Row row) {
        SignedCore[] states = {new SignedCore(), worn(), full()};
        for (SignedCore x : states) {
            String before = Held.by(x);
            Check.due(row.name, row.call.on(x), row.want);
            Check.due(row.name + ": changes nothing", Held.by(x).equals(before) ? 1 : 0, 1);
        }
    }

    private static void allRefused(List<Row> rows) {
        for (Row row : rows) {
            refused(row);
        }
    }

    private static void refusedPuts() {
        Check.sentence("put .. BAD");
        wornIsWorn();
        allRefused(puts());
    }

    private static List<Row> puts() {
        List<Row> rows = new ArrayList<>();
        int[] addresses = {LEAST, -4096, -1, 4096, 4097, 8192, MOST};
        for (int a : addresses) {
            rows.add(new Row("put(" + a + ", 5)", -1, x -> x.put(a, 5)));
        }
        int[] words = {LEAST, -262143, -1, 262144, 262145, MOST};
        for (int w : words) {
            rows.add(new Row("put(0, " + w + ")", -1, x -> x.put(0, w)));
            rows.add(new Row("put(4095, " + w + ")", -1, x -> x.put(4095, w)));
            rows.add(new Row("put(4096, " + w + ")", -1, x -> x.put(4096, w)));
        }
        return rows;
    }

    private static void refusedLoads() {
        Check.sentence("load .. BAD: also bits above these");
        allRefused(loads());
    }

    private static List<Row> loads() {
        List<Row> rows = new ArrayList<>();
        int[] addresses = {LEAST, -1, 4096, MOST};
        for (int a : addresses) {
            rows.add(new Row("load(" + a + ", 5, 1)", -1, x -> x.load(a, 5L, 1)));
        }
        int[] ns = {LEAST, -1, 0, 4, 32, 64, MOST};
        for (int n : ns) {
            rows.add(new Row("load(9, 0, " + n + ")", -1, x -> x.load(9, 0L, n)));
            rows.add(new Row("load(9, 5, " + n + ")", -1, x -> x.load(9, 5L, n)));
        }
        for (int n = 1; n <= 3; n++) {
            int count = n;
            for (int bit = 18 * n; bit <= 63; bit++) {
                long words = 1L << bit | 5;
                rows.add(new Row("load(9, " + words + ", " + n + ")", -1, x -> x.load(9, words, count)));
            }
            rows.add(new Row("load(4095, -1, " + n + ")", -1, x -> x.load(4095, -1L, count)));
        }
        return rows;
    }

    private static void refusedSets() {
        Check.sentence("set .. BAD: also what it cannot be");
        allRefused(sets());
    }

    private static List<Row> sets() {
        List<Row> rows = new ArrayList<>();
        int[] most = {262143, 262143, 4095, 1, 63, 1};
        for (int i = 0; i < most.length; i++) {
            int what = i;
            int[] values = {LEAST, -most[i], -1, most[i] + 1, 2 * most[i] + 1, MOST};
            for (int v : values) {
                rows.add(new Row("set(" + what + ", " + v + ")", -1, x -> x.set(what, v)));
            }
        }
        int[] whats = {LEAST, -1, 6, 7, 8, MOST};
        for (int what : whats) {
            rows.add(new Row("set(" + what + ", 0)", -1, x -> x.set(what, 0)));
            rows.add(new Row("set(" + what + ", 1)", -1, x -> x.set(what, 1)));
        }
        return rows;
    }

    private static void refusedSwitches() {
        Check.sentence("switches .. BAD");
        allRefused(switches());
    }

    private static List<Row> switches() {
        List<Row> rows = new ArrayList<>();
        int[] bits = {LEAST, -1, 64, 127, MOST};
        for (int b : bits) {
            rows.add(new Row("switches(" + b + ", 3)", -1, x -> x.switches(b, 3)));
        }
        int[] tests = {LEAST, -1, 262144, MOST};
        for (int t : tests) {
            rows.add(new Row("switches(7, " + t + ")", -1, x -> x.switches(7, t)));
            rows.add(new Row("switches(64, " + t + ")", -1, x -> x.switches(64, t)));
        }
        return rows;
    }

    private static void refusedTypes() {
        Check.sentence("type .. BAD");
        allRefused(types());
    }

    private static List<Row> types() {
        List<Row> rows = new ArrayList<>();
        int[] signs = {LEAST, -63, -1, 64, 127, MOST};
        for (int s : signs) {
            rows.add(new Row("type(" + s + ")", -1, x -> x.type(s)));
        }
        return rows;
    }

    private static void refusedRuns() {
        Check.sentence("run .. BAD");
        allRefused(runs());
    }

    private static List<Row> runs() {
        List<Row> rows = new ArrayList<>();
        int[] steps = {LEAST, -5000, -1, 0, 5001, 10000, MOST};
        for (int n : steps) {
            rows.add(new Row("run(" + n + ")", -1, x -> x.run(n)));
        }
        return rows;
    }

    private static void refusedQuestions() {
        Check.sentence("core, told, ran, point, out, value, word, reads .. BAD");
        allRefused(questions());
    }

    private static List<Row> questions() {
        List<Row> rows = new ArrayList<>();
        for (int n : OUTSIDE) {
            rows.add(new Row("core(" + n + ")", -1, x -> x.core(n)));
            rows.add(new Row("told(" + n + ")", -1, x -> x.told(n)));
            rows.add(new Row("ran(" + n + ")", -1, x -> x.ran(n)));
            rows.add(new Row("point(0, " + n + ")", -1, x -> x.point(0, n)));
            rows.add(new Row("point(-1, " + n + ")", -1, x -> x.point(-1, n)));
            rows.add(new Row("value(" + n + ")", -1000000, x -> x.value(n)));
            rows.add(new Row("reads(" + n + ", 0)", -1, x -> x.reads(n, 0)));
            rows.add(new Row("reads(0, " + n + ")", -1, x -> x.reads(0, n)));
        }
        rows.add(new Row("core(4096)", -1, x -> x.core(4096)));
        rows.add(new Row("told(8)", -1, x -> x.told(8)));
        rows.add(new Row("ran(8)", -1, x -> x.ran(8)));
        rows.add(new Row("point(0, 2)", -1, x -> x.point(0, 2)));
        rows.add(new Row("out(-3)", -1, x -> x.out(-3)));
        rows.add(new Row("out(least)", -1, x -> x.out(LEAST)));
        rows.add(new Row("value(262144)", -1000000, x -> x.value(262144)));
        rows.add(new Row("word(131072)", -1, x -> x.word(131072)));
        rows.add(new Row("word(-131072)", -1, x -> x.word(-131072)));
        rows.add(new Row("word(least)", -1, x -> x.word(LEAST)));
        rows.add(new Row("word(most)", -1, x -> x.word(MOST)));
        rows.add(new Row("reads(262144, 0)", -1, x -> x.reads(262144, 0)));
        rows.add(new Row("reads(0, 6)", -1, x -> x.reads(0, 6)));
        rows.add(new Row("reads(262144, 6)", -1, x -> x.reads(262144, 6)));
        return rows;
    }

    private static void fullRow() {
        Check.sentence("type .. FULL");
        for (int sign = 0; sign <= 63; sign++) {
            SignedCore x = full();
            String before = Held.by(x);
            Check.due("type(" + sign + ")", x.type(sign), SignedCore.FULL);
            Check.due("type(" + sign + "): changes nothing", Held.by(x).equals(before) ? 1 : 0, 1);
        }
    }

    private static void badAheadOfFull() {
        Check.sentence("the first of these: BAD .., FULL");
        SignedCore x = full();
        Check.due("FULL alone", x.type(5), SignedCore.FULL);
        Check.due("too small", x.type(-1), SignedCore.BAD);
        Check.due("too large", x.type(64), SignedCore.BAD);
        Check.due("FULL again", x.type(63), SignedCore.FULL);
    }

    private static void unchanged(SignedCore x, String name, Call call) {
        String before = Held.by(x);
        call.on(x);
        Check.due(name + " changes nothing", Held.by(x).equals(before) ? 1 : 0, 1);
    }

    private static void questionsChangeNothing() {
        Check.sentence("core, told, ran, point, points, out, value, word, reads, digest are questions");
        SignedCore[] states = {new SignedCore(), worn(), full()};
        for (SignedCore x : states) {
            for (int i = -2; i <= 8; i++) {
                int n = i;
                unchanged(x, "core " + n, y -> y.core(n));
                unchanged(x, "told " + n, y -> y.told(n));
                unchanged(x, "ran " + n, y -> y.ran(n));
                unchanged(x, "point " + n, y -> y.point(n, 0));
                unchanged(x, "point " + n + ", y", y -> y.point(n, 1));
                unchanged(x, "out " + n, y -> y.out(n));
                unchanged(x, "value " + n, y -> y.value(n));
                unchanged(x, "word " + n, y -> y.word(n));
                unchanged(x, "reads " + n, y -> y.reads(65535, n));
            }
            unchanged(x, "points", y -> y.points());
            unchanged(x, "digest", y -> y.digest());
        }
    }

    private static List<Row> allRows() {
        List<Row> rows = new ArrayList<>(puts());
        rows.addAll(loads());
        rows.addAll(sets());
        rows.addAll(switches());
        rows.addAll(types());
        rows.addAll(runs());
        rows.addAll(questions());
        return rows;
    }

    /** By the public face alone: twins, one of which was asked for all that is refused. */
    private static void refusedCallsCannotBeSeenLater() {
        Check.sentence("Refused, and nothing changes");
        List<Row> rows = allRows();
        for (int from = 0; from < rows.size(); from += 100) {
            SignedCore plain = worn();
            SignedCore asked = worn();
            for (int i = from; i < rows.size() && i < from + 100; i++) {
                rows.get(i).call.on(asked);
            }
            alike(plain, asked);
        }
    }

    private static int testWordOf(SignedCore x) {
        x.set(2, 50);
        x.put(50, Check.op(Check.OPR, 128 + 1024));
        x.run(1);
        return x.told(0);
    }

    private static void alike(SignedCore a, SignedCore b) {
        Check.due("digest", b.digest(), a.digest());
        Check.due("points", b.points(), a.points());
        for (int i = 0; i <= 7; i++) {
            Check.due("told(" + i + ")", b.told(i), a.told(i));
            Check.due("ran(" + i + ")", b.ran(i), a.ran(i));
        }
        for (int i = 0; i <= 64; i++) {
            Check.due("point(" + i + ", 0)", b.point(i, 0), a.point(i, 0));
            Check.due("point(" + i + ", 1)", b.point(i, 1), a.point(i, 1));
            Check.due("out(" + (i - 2) + ")", b.out(i - 2), a.out(i - 2));
        }
        Check.due("wait", b.type(5), a.type(5));
        Check.due("asked for", b.ask(), a.ask());
        Check.due("THE TEST WORD", testWordOf(b), testWordOf(a));
        Check.due("SWITCHES", b.switches(0, 4095), a.switches(0, 4095));
        Check.due("goes on", b.run(30), a.run(30));
        Check.due("digest at the end", b.digest(), a.digest());
        Check.due("PC at the end", b.told(2), a.told(2));
    }
}
