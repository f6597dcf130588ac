/** The boundary cases of promises 10 to 14, one function for each sentence that names one. */
public final class EdgeRunTest {
    private static final Check CHECK = new Check("EdgeRunTest");
    private static final int LEAST = Integer.MIN_VALUE;
    private static final int MOST = Integer.MAX_VALUE;
    /** Acts 0 to 5: r1 has the least number, r2 the most, r3 one. */
    private static final String FAR = "set r1 65536\nset r2 32768\nmul r1 r2\ncopy r2 r1\nset r3 1\nsub r2 r3\n";

    public static void main(String[] args) {
        runNoShelf();
        runNoInput();
        zeroAtFirst();
        actZeroFirst();
        inBehindTheEnd();
        inOfAllBytes();
        wraps();
        lessBelow();
        sameAlike();
        outKeeps40();
        wellByStop();
        wellBehindTheLast();
        readOfNoPlace();
        writeIntoNoPlace();
        jumpToNoAct();
        jumpAlone();
        endlessAfter1000();
        endlessAheadOfOthers();
        badActIsNotDone();
        makerNoneAtFirst();
        makerCarriedOn();
        bytesOfIn();
        bytesOfSet();
        bytesOfTwo();
        bytesOfLoadAndStore();
        ranElse();
        ranSteps();
        ranTold();
        ranRead();
        ranAnother();
        ranWithout();
        ranOfTheLatest();
        toldNoneKept();
        leftFirstAndLast();
        leftNoneSuch();
        leftOfNoneSuch();
        CHECK.finish();
    }

    private static FallBench ran(String text, int end, int... bytes) {
        FallBench x = Check.bench(text, bytes);
        CHECK.due("run of '" + text.replace("\n", "\\n") + "'", x.run(0, 0), end);
        return x;
    }

    private static void ranDue(FallBench x, int... want) {
        for (int what = 0; what < want.length; what++) {
            CHECK.due("ran(" + what + ")", x.ran(what), want[what]);
        }
    }

    private static void toldDue(FallBench x, int... want) {
        CHECK.due("ran(5)", x.ran(5), want.length);
        for (int k = 0; k < want.length; k++) {
            CHECK.due("told(" + k + ")", x.told(k), want[k]);
        }
    }

    /** What a cell has, its MAKER and its BYTES. */
    private static void cellDue(FallBench x, int k, int value, int maker, int bytes) {
        CHECK.due("left(" + k + ")", x.left(k), value);
        CHECK.due("leftOf(" + k + ", 0)", x.leftOf(k, 0), maker);
        CHECK.due("leftOf(" + k + ", 1)", x.leftOf(k, 1), bytes);
    }

    /** A RUN of which everything that can be asked is known, so that it can be seen to stay. */
    private static FallBench known() {
        FallBench x = ran("in r0\nout r0\nset r1 3\nstore r1 r0\nload r2 r0", 1, 77, 5);
        knownDue(x);
        return x;
    }

    private static void knownDue(FallBench x) {
        ranDue(x, 4, 4, 77, 0, 1, 1, 1);
        CHECK.due("told(0)", x.told(0), 77);
        cellDue(x, 0, 77, 0, 1);
        cellDue(x, 11, 77, 0, 1);
    }

    private static void runNoShelf() {
        CHECK.edge(10, "NONE, doing nothing, if there is no such SHELF");
        FallBench x = known();
        for (int shelf : new int[] {-1, -2, 3, 4, 10, LEAST, MOST}) {
            CHECK.due("run(" + shelf + ", 0)", x.run(shelf, 0), -1);
            knownDue(x);
        }
    }

    private static void runNoInput() {
        CHECK.edge(10, "NONE, doing nothing, if there is no such INPUT");
        FallBench x = known();
        for (int input : new int[] {-1, 1, 2, 29, 30, LEAST, MOST}) {
            CHECK.due("run(0, " + input + ")", x.run(0, input), -1);
            CHECK.due("run(1, " + input + ")", x.run(1, input), -1);
            knownDue(x);
        }
        x.drop();
        CHECK.due("run of one that is kept no more", x.run(1, 0), -1);
        knownDue(x);
    }

    private static void zeroAtFirst() {
        CHECK.edge(10, "registers r0 .. r7 and PLACES 0 .. 31 are 0 at first");
        FallBench x = ran("", 0);
        for (int k = 0; k < 40; k++) {
            cellDue(x, k, 0, -1, 0);
        }
        StringBuilder fill = new StringBuilder("in r0\nset r1 1\na:store r2 r0\nadd r2 r1\nset r3 32\nless r2 r3 a\n");
        for (int r = 1; r < 8; r++) {
            fill.append("copy r").append(r).append(" r0\n");
        }
        Check.program(x, 0, fill.toString());
        Check.input(x, 9);
        CHECK.due("run", x.run(0, 1), 0);
        for (int k = 0; k < 40; k++) {
            cellDue(x, k, 9, 0, 1);
        }
        CHECK.due("run of another", x.run(1, 1), 0);
        for (int k = 0; k < 40; k++) {
            cellDue(x, k, 0, -1, 0);
        }
    }

    private static void actZeroFirst() {
        CHECK.edge(10, "act 0 first, then the next one");
        FallBench x = ran("set r0 5\nout r0\nset r0 6\nout r0\njump r1", 4);
        CHECK.due("told(0)", x.told(0), 5);
        CHECK.due("told(1)", x.told(1), 6);
        CHECK.due("told(2)", x.told(2), 5);
        x.run(0, 0);
        CHECK.due("told(0) of a second RUN", x.told(0), 5);
    }

    private static void inBehindTheEnd() {
        CHECK.edge(10, "in R: the next byte of the INPUT (-1 behind its end)");
        FallBench x = ran("in r0\nin r1\nin r2\nin r3", 0, 7, 0);
        cellDue(x, 0, 7, 0, 1);
        cellDue(x, 1, 0, 1, 2);
        cellDue(x, 2, -1, 2, 0);
        cellDue(x, 3, -1, 3, 0);
        x = ran("in r0", 0);
        cellDue(x, 0, -1, 0, 0);
        // A byte 255 is no end.
        x = ran("in r0\nin r1", 0, 255, 8);
        cellDue(x, 0, 255, 0, 1);
        cellDue(x, 1, 8, 1, 2);
    }

    private static void inOfAllBytes() {
        CHECK.edge(10, "an INPUT (bytes 0 .. 255, 24 at most)");
        int[] bytes = new int[24];
        for (int k = 0; k < 24; k++) {
            bytes[k] = k == 0 ? 255 : 200 - k;
        }
        FallBench x = ran("in r0\nout r0\n".repeat(25), 0, bytes);
        for (int k = 0; k < 24; k++) {
            CHECK.due("told(" + k + ")", x.told(k), bytes[k]);
        }
        CHECK.due("told(24)", x.told(24), -1);
        CHECK.due("ran(6)", x.ran(6), 24);
    }

    private static void wraps() {
        CHECK.edge(10, "add, sub, mul (into the first; ints, wrapping)");
        FallBench x = ran(FAR + "copy r4 r2\nadd r4 r3\nout r4\ncopy r4 r1\nsub r4 r3\nout r4\ncopy r4 r2\nmul r4 r2\nout r4\n"
                + "copy r4 r1\nmul r4 r1\nout r4\nsub r5 r1\nout r5\ncopy r4 r2\nadd r4 r2\nout r4\nout r1\nout r2", 0);
        toldDue(x, LEAST, MOST, 1, 0, LEAST, -2, LEAST, MOST);
        x = ran("set r0 7\nset r1 9\nadd r0 r1\nout r0\nout r1\nsub r0 r0\nout r0\nset r0 -999999\nmul r0 r0\nout r0", 0);
        toldDue(x, 16, 9, 0, (int) (999999L * 999999L));
    }

    private static void lessBelow() {
        CHECK.edge(10, "less R S L: goes to L if R is below S");
        int[][] pairs = {{0, 0}, {0, 1}, {1, 0}, {-1, 0}, {0, -1}, {-1, -1}, {-999999, 999999}, {999999, -999999}};
        for (int[] p : pairs) {
            FallBench x = ran("set r1 " + p[0] + "\nset r2 " + p[1] + "\nless r1 r2 a\nout r1\na:", 0);
            CHECK.due(p[0] + " below " + p[1], x.ran(5), p[0] < p[1] ? 0 : 1);
        }
        CHECK.due("the least below the most", ran(FAR + "less r1 r2 a\nout r1\na:", 0).ran(5), 0);
        CHECK.due("the most below the least", ran(FAR + "less r2 r1 a\nout r1\na:", 0).ran(5), 1);
    }

    private static void sameAlike() {
        CHECK.edge(10, "same: if they are alike");
        int[][] pairs = {{0, 0}, {0, 1}, {1, 0}, {-1, 1}, {-1, -1}, {999999, 999999}, {999999, -999999}, {256, 0}};
        for (int[] p : pairs) {
            FallBench x = ran("set r1 " + p[0] + "\nset r2 " + p[1] + "\nsame r1 r2 a\nout r1\na:", 0);
            CHECK.due(p[0] + " like " + p[1], x.ran(5), p[0] == p[1] ? 0 : 1);
        }
        CHECK.due("the least like the most", ran(FAR + "same r1 r2 a\nout r1\na:", 0).ran(5), 1);
        // Alike are the values: their MAKERS and BYTES may differ.
        CHECK.due("made otherwise", ran("in r1\nset r2 8\nsame r1 r2 a\nout r1\na:", 0, 8).ran(5), 0);
    }

    private static void outKeeps40() {
        CHECK.edge(10, "out R: it is told (40 are kept, all counted)");
        for (int n : new int[] {1, 39, 40, 41, 80}) {
            FallBench x = ran("set r1 1\nset r2 " + n + "\na:add r0 r1\nout r0\nless r0 r2 a", 0);
            CHECK.due("ran(5)", x.ran(5), n);
            for (int k = 0; k < 90; k++) {
                CHECK.due("told(" + k + ") of " + n, x.told(k), k < n && k < 40 ? k + 1 : 0);
            }
        }
        CHECK.due("none", ran("in r0", 0, 5).ran(5), 0);
        CHECK.due("of an endless RUN", ran("a:out r0\ngo a", 4).ran(5), 500);
        CHECK.due("all STEPS but one", ran("a:out r0\nout r0\nout r0\nout r0\njump r1", 4).ran(5), 800);
    }

    private static void wellByStop() {
        CHECK.edge(10, "0 WELL: stop");
        ranDue(ran("stop", 0), 1, -1, 0, -1, 0, 0, 0);
        ranDue(ran("stop\nout r0", 0), 1, -1, 0, -1, 0, 0, 0);
        ranDue(ran("in r0\nstop\nload r1 r0", 0, 99), 2, -1, 0, -1, 0, 0, 1);
    }

    private static void wellBehindTheLast() {
        CHECK.edge(10, "0 WELL: behind the last act");
        ranDue(ran("", 0), 0, -1, 0, -1, 0, 0, 0);
        ranDue(ran("out r0", 0), 1, -1, 0, -1, 0, 1, 0);
        ranDue(ran("go a\nout r0\na:", 0), 1, -1, 0, -1, 0, 0, 0);
        ranDue(ran("out r0\n".repeat(80), 0), 80, -1, 0, -1, 0, 80, 0);
        ranDue(ran("go a\n" + "out r0\n".repeat(79) + "a:", 0), 1, -1, 0, -1, 0, 0, 0);
    }

    private static void readOfNoPlace() {
        CHECK.edge(10, "1 READ: load of what is no PLACE");
        for (int p : new int[] {0, 1, 30, 31}) {
            ranDue(ran("set r1 " + p + "\nload r2 r1", 0), 2, -1, 0, -1, 0, 0, 0);
        }
        for (int p : new int[] {-1, -2, 32, 33, 40, 999999, -999999}) {
            ranDue(ran("set r1 " + p + "\nload r2 r1", 1), 1, 1, p, 0, 0, 0, 0);
        }
        ranDue(ran(FAR + "load r4 r1", 1), 6, 6, LEAST, 2, 0, 0, 0);
        ranDue(ran(FAR + "load r4 r2", 1), 6, 6, MOST, 5, 0, 0, 0);
        // What is loaded may be any value; it is no PLACE that is asked for.
        ranDue(ran("set r1 99\nstore r2 r1\nload r3 r2", 0), 3, -1, 0, -1, 0, 0, 0);
    }

    private static void writeIntoNoPlace() {
        CHECK.edge(10, "2 WRITE: store into what is none");
        for (int p : new int[] {0, 1, 30, 31}) {
            FallBench x = ran("set r1 " + p + "\nset r2 -7\nstore r1 r2", 0);
            CHECK.due("left(" + (8 + p) + ")", x.left(8 + p), -7);
        }
        for (int p : new int[] {-1, -2, 32, 33, 40, 999999, -999999}) {
            ranDue(ran("set r1 " + p + "\nstore r1 r2", 2), 1, 1, p, 0, 0, 0, 0);
        }
        ranDue(ran(FAR + "store r1 r4", 2), 6, 6, LEAST, 2, 0, 0, 0);
        ranDue(ran(FAR + "store r2 r4", 2), 6, 6, MOST, 5, 0, 0, 0);
    }

    private static void jumpToNoAct() {
        CHECK.edge(10, "3 JUMP to what is no act (how many acts there are is none)");
        ranDue(ran("set r1 3\njump r1\nout r1\nstop", 0), 3, -1, 0, -1, 0, 0, 0);
        for (int p : new int[] {4, 5, 80, -1, -2, 999999, -999999}) {
            ranDue(ran("set r1 " + p + "\njump r1\nout r1\nstop", 3), 1, 1, p, 0, 0, 0, 0);
        }
        ranDue(ran(FAR + "jump r1", 3), 6, 6, LEAST, 2, 0, 0, 0);
        ranDue(ran(FAR + "jump r2", 3), 6, 6, MOST, 5, 0, 0, 0);
        String most = "in r1\njump r1\n" + "stop\n".repeat(78);
        ranDue(ran(most, 0, 79), 3, -1, 0, -1, 0, 0, 1);
        ranDue(ran(most, 3, 80), 1, 1, 80, 0, 1, 0, 1);
        // To act 0: the second time it has read behind the end and goes out.
        ranDue(ran("in r1\nless r1 r0 e\njump r0\ne:", 0, 0), 5, -1, 0, -1, 0, 0, 1);
    }

    private static void jumpAlone() {
        CHECK.edge(10, "3 JUMP (by jump alone)");
        ranDue(ran("go e\nstop\ne:", 0), 1, -1, 0, -1, 0, 0, 0);
        ranDue(ran("set r1 1\nless r0 r1 e\nstop\ne:", 0), 2, -1, 0, -1, 0, 0, 0);
        ranDue(ran("same r0 r1 e\nstop\ne:", 0), 1, -1, 0, -1, 0, 0, 0);
        ranDue(ran("set r1 1\njump r1", 4), 1000, -1, 0, -1, 0, 0, 0);
    }

    /** 999 STEPS, and then the rest, in which r7 is 99. */
    private static String after999(String rest) {
        return "set r1 1\nset r2 498\nset r7 99\na:add r0 r1\nless r0 r2 a\n" + rest;
    }

    private static void endlessAfter1000() {
        CHECK.edge(10, "4 ENDLESS: 1,000 STEPS are done and there is an act more");
        ranDue(ran(after999(""), 0), 999, -1, 0, -1, 0, 0, 0);
        ranDue(ran(after999("out r0"), 0), 1000, -1, 0, -1, 0, 1, 0);
        ranDue(ran(after999("stop"), 0), 1000, -1, 0, -1, 0, 0, 0);
        ranDue(ran(after999("go e\nstop\ne:"), 0), 1000, -1, 0, -1, 0, 0, 0);
        ranDue(ran(after999("out r0\nout r0"), 4), 1000, -1, 0, -1, 0, 1, 0);
        ranDue(ran(after999("go e\nstop\ne:out r0"), 4), 1000, -1, 0, -1, 0, 0, 0);
        ranDue(ran("a:go a", 4), 1000, -1, 0, -1, 0, 0, 0);
    }

    private static void endlessAheadOfOthers() {
        CHECK.edge(10, "4 ENDLESS (asked ahead of all others)");
        ranDue(ran(after999("out r0\nstop"), 4), 1000, -1, 0, -1, 0, 1, 0);
        ranDue(ran(after999("out r0\nload r0 r7"), 4), 1000, -1, 0, -1, 0, 1, 0);
        ranDue(ran(after999("out r0\nstore r7 r0"), 4), 1000, -1, 0, -1, 0, 1, 0);
        ranDue(ran(after999("out r0\njump r7"), 4), 1000, -1, 0, -1, 0, 1, 0);
        // One STEP sooner they are what they are.
        ranDue(ran(after999("load r0 r7"), 1), 999, 5, 99, 2, 0, 0, 0);
        ranDue(ran(after999("store r7 r0"), 2), 999, 5, 99, 2, 0, 0, 0);
        ranDue(ran(after999("jump r7"), 3), 999, 5, 99, 2, 0, 0, 0);
    }

    private static void badActIsNotDone() {
        CHECK.edge(10, "1, 2, 3: the act is not done (no STEP)");
        FallBench x = ran("set r1 32\nset r2 5\nload r2 r1", 1);
        CHECK.due("STEPS", x.ran(0), 2);
        cellDue(x, 2, 5, 1, 0);
        x = ran("set r1 32\nset r2 5\nstore r1 r2", 2);
        CHECK.due("STEPS", x.ran(0), 2);
        for (int k = 8; k < 40; k++) {
            cellDue(x, k, 0, -1, 0);
        }
        x = ran("set r1 -8\nset r2 5\nstore r1 r2", 2);
        cellDue(x, 0, 0, -1, 0);
        x = ran("set r1 3\njump r1\nout r1", 3);
        CHECK.due("STEPS", x.ran(0), 1);
        CHECK.due("told", x.ran(5), 0);
    }

    private static void makerNoneAtFirst() {
        CHECK.edge(14, "its MAKER (NONE at first)");
        FallBench x = ran("copy r1 r2\nload r3 r4\nstore r5 r6", 0);
        for (int k : new int[] {1, 3, 8}) {
            cellDue(x, k, 0, -1, 0);
        }
        x = ran("set r1 4\nset r2 4\ncopy r1 r3\nstore r2 r3", 0);
        cellDue(x, 1, 0, -1, 0);
        cellDue(x, 12, 0, -1, 0);
        cellDue(x, 2, 4, 1, 0);
    }

    private static void makerCarriedOn() {
        CHECK.edge(14, "its MAKER is the act that made it (copy, load and store carry it on)");
        FallBench x = ran("in r0\nset r1 31\nstore r1 r0\nload r2 r1\ncopy r3 r2\nset r4 2\nadd r4 r3", 0, 6);
        cellDue(x, 39, 6, 0, 1);
        cellDue(x, 2, 6, 0, 1);
        cellDue(x, 3, 6, 0, 1);
        cellDue(x, 4, 8, 6, 1);
        cellDue(x, 1, 31, 1, 0);
        x = ran("out r0\n".repeat(79) + "set r0 1", 0);
        cellDue(x, 0, 1, 79, 0);
        // Of a value that is put onto itself.
        cellDue(ran("in r0\ncopy r0 r0", 0, 4), 0, 4, 0, 1);
        cellDue(ran("in r0\nadd r0 r0", 0, 4), 0, 8, 1, 1);
        cellDue(ran("in r0\nstore r0 r0\nload r0 r0", 0, 4), 0, 4, 0, 1);
    }

    private static void bytesOfIn() {
        CHECK.edge(14, "BYTES of in its byte (none at the end)");
        FallBench x = ran("in r0\n".repeat(23) + "in r1\nin r2", 0, new int[24]);
        cellDue(x, 0, 0, 22, 1 << 22);
        cellDue(x, 1, 0, 23, 1 << 23);
        cellDue(x, 2, -1, 24, 0);
        // What was there is gone, at the end too.
        cellDue(ran("in r0\nin r0", 0, 5), 0, -1, 1, 0);
        cellDue(ran("in r0\nin r0", 0, 5, 6), 0, 6, 1, 2);
    }

    private static void bytesOfSet() {
        CHECK.edge(14, "BYTES of set none");
        cellDue(ran("in r0\nset r0 3", 0, 5), 0, 3, 1, 0);
        cellDue(ran("in r0\nset r1 3\nstore r1 r0\nset r2 4\nstore r1 r2", 0, 5), 11, 4, 3, 0);
    }

    private static void bytesOfTwo() {
        CHECK.edge(14, "BYTES of add, sub, mul both's together");
        for (String act : new String[] {"add", "sub", "mul"}) {
            FallBench x = ran("in r0\nin r1\nin r2\n" + act + " r0 r2", 0, 0, 7, 0);
            cellDue(x, 0, 0, 3, 5);
            cellDue(x, 2, 0, 2, 4);
        }
        // A byte that can't change the value has gone into it all the same.
        cellDue(ran("in r0\nsub r0 r0", 0, 9), 0, 0, 1, 1);
        cellDue(ran("in r0\nmul r0 r1", 0, 9), 0, 0, 1, 1);
        String all = "set r2 24\nset r3 1\na:in r0\nadd r1 r0\nadd r4 r3\nless r4 r2 a";
        cellDue(ran(all, 0, new int[24]), 1, 0, 3, (1 << 24) - 1);
    }

    private static void bytesOfLoadAndStore() {
        CHECK.edge(14, "load those of the PLACE and of the value that told the PLACE, store those of what is stored and of it");
        FallBench x = ran("in r0\nin r1\nin r2\nstore r0 r1\nload r3 r2\nload r4 r0\nset r5 2\nload r6 r5", 0, 2, 50, 2);
        cellDue(x, 10, 50, 1, 3);
        cellDue(x, 3, 50, 1, 7);
        cellDue(x, 4, 50, 1, 3);
        cellDue(x, 6, 50, 1, 3);
        // What was there ahead of it is not together with it.
        x = ran("in r0\nin r1\nstore r0 r1\nset r2 7\nset r3 4\nstore r3 r2\nin r4\nload r1 r4", 0, 4, 9, 6);
        cellDue(x, 12, 7, 3, 0);
        cellDue(x, 1, 0, -1, 4);
        // Which way was gone does not go into a value.
        cellDue(ran("in r0\nsame r0 r1 a\nstop\na:set r2 5\ncopy r3 r2", 0, 0), 3, 5, 3, 0);
    }

    private static void ranElse() {
        CHECK.edge(11, "1: the act of its end (NONE else), 2: the WRONG value (0 else), 3: its MAKER (NONE), 4: its BYTES (0)");
        FallBench x = ran("in r0\nin r1\nadd r0 r1\nload r1 r0", 1, 200, 100);
        ranDue(x, 3, 3, 300, 2, 3, 0, 2);
        Check.program(x, 0, "stop");
        CHECK.due("run", x.run(0, 0), 0);
        ranDue(x, 1, -1, 0, -1, 0, 0, 0);
        Check.program(x, 0, "in r0\njump r0");
        CHECK.due("run", x.run(0, 0), 3);
        ranDue(x, 1, 1, 200, 0, 1, 0, 1);
        Check.program(x, 0, "a:in r0\ngo a");
        CHECK.due("run", x.run(0, 0), 4);
        ranDue(x, 1000, -1, 0, -1, 0, 0, 2);
        ranDue(ran("load r0 r1\nin r0\nload r1 r0", 1), 2, 2, -1, 1, 0, 0, 0);
    }

    private static void ranSteps() {
        CHECK.edge(11, "0: STEPS");
        CHECK.due("of an empty program", ran("", 0).ran(0), 0);
        CHECK.due("of a bad end at once but one", ran("in r0\nload r1 r0", 1).ran(0), 1);
        CHECK.due("of stop alone", ran("stop", 0).ran(0), 1);
        CHECK.due("of the most", ran("a:go a", 4).ran(0), 1000);
    }

    private static void ranTold() {
        CHECK.edge(11, "5: how many were told by out");
        FallBench x = ran("in r0\nout r0\nload r1 r0\nout r1", 1, 99);
        CHECK.due("ahead of a bad end", x.ran(5), 1);
        x.run(1, 0);
        CHECK.due("anew", x.ran(5), 0);
        CHECK.due("more than are kept", ran("out r0\n".repeat(41), 0).ran(5), 41);
    }

    private static void ranRead() {
        CHECK.edge(11, "6: how many bytes of the INPUT were read");
        CHECK.due("none", ran("out r0", 0, 1, 2).ran(6), 0);
        CHECK.due("one", ran("in r0", 0, 1, 2).ran(6), 1);
        CHECK.due("all", ran("in r0\nin r0", 0, 1, 2).ran(6), 2);
        CHECK.due("behind the end", ran("in r0\nin r0\nin r0\nin r0", 0, 1, 2).ran(6), 2);
        CHECK.due("of an empty INPUT", ran("in r0", 0).ran(6), 0);
        CHECK.due("of 24", ran("a:in r0\ngo a", 4, new int[24]).ran(6), 24);
    }

    private static void ranAnother() {
        CHECK.edge(11, "NONE for another what");
        FallBench x = known();
        for (int what : new int[] {-1, -2, 7, 8, 10, LEAST, MOST}) {
            CHECK.due("ran(" + what + ")", x.ran(what), -1);
        }
    }

    private static void ranWithout() {
        CHECK.edge(11, "NONE without");
        FallBench x = Check.bench("in r0\nout r0\nload r1 r0", 99);
        x.run(3, 0);
        x.run(0, 1);
        x.heaps(0);
        x.small(0, 0);
        x.ruled(0, 0);
        x.nearest(0, 0);
        x.held(0, 0, 0);
        for (int what = -1; what <= 7; what++) {
            CHECK.due("ran(" + what + ")", x.ran(what), -1);
        }
    }

    private static void ranOfTheLatest() {
        CHECK.edge(11, "Of the latest run() that was not NONE");
        FallBench x = known();
        Check.program(x, 1, "set r0 1\nout r0\nset r3 40\nload r1 r3");
        x.heaps(1);
        x.heap(1, 0, 0);
        x.heapOf(1, 0);
        x.small(1, 0);
        x.small(0, 0);
        x.ruled(1, 0);
        x.nearest(1, 0);
        x.nearestByte(0, 0);
        x.held(0, 1, 0);
        x.heldAll(1, 0, 0);
        x.run(3, 0);
        knownDue(x);
        Check.program(x, 0, "stop");
        x.drop();
        knownDue(x);
        Check.input(x, 1);
        knownDue(x);
        x.run(0, 0);
        ranDue(x, 1, -1, 0, -1, 0, 0, 0);
    }

    private static void toldNoneKept() {
        CHECK.edge(12, "0 if there is none such kept");
        int[] none = {-1, -2, 2, 3, 39, 40, LEAST, MOST};
        FallBench x = Check.bench("set r0 8\nout r0\nset r0 9\nout r0", 1);
        CHECK.due("told(0) without", x.told(0), 0);
        for (int k : none) {
            CHECK.due("told(" + k + ") without", x.told(k), 0);
        }
        x.run(0, 0);
        CHECK.due("told(0)", x.told(0), 8);
        CHECK.due("told(1)", x.told(1), 9);
        for (int k : none) {
            CHECK.due("told(" + k + ")", x.told(k), 0);
        }
        Check.program(x, 0, "set r0 8\n" + "out r0\n".repeat(42));
        x.run(0, 0);
        CHECK.due("told(39)", x.told(39), 8);
        CHECK.due("told(40)", x.told(40), 0);
        CHECK.due("told(41)", x.told(41), 0);
        Check.program(x, 0, "out r0");
        x.run(0, 0);
        CHECK.due("told(1) of an earlier RUN", x.told(1), 0);
        CHECK.due("told(39) of an earlier RUN", x.told(39), 0);
    }

    private static void leftFirstAndLast() {
        CHECK.edge(13, "What a register (0 .. 7), or PLACE (8 + p) has at its end");
        FallBench x = ran("set r0 70\nset r7 77\nset r1 31\nset r2 5\nset r3 6\nstore r1 r2\nstore r4 r3", 0);
        cellDue(x, 0, 70, 0, 0);
        cellDue(x, 7, 77, 1, 0);
        cellDue(x, 8, 6, 4, 0);
        cellDue(x, 39, 5, 3, 0);
        CHECK.due("left(38)", x.left(38), 0);
        CHECK.due("left(9)", x.left(9), 0);
        x = ran("set r0 1\nset r0 2\nstop\nset r0 3", 0);
        CHECK.due("the last that was set", x.left(0), 2);
    }

    private static void leftNoneSuch() {
        CHECK.edge(13, "0 if there is none such, or without");
        FallBench x = Check.bench("set r0 5\nset r7 5\nset r1 31\nstore r1 r0", 1);
        for (int k = 0; k < 40; k++) {
            CHECK.due("left(" + k + ") without", x.left(k), 0);
        }
        x.run(0, 1);
        CHECK.due("left(0) behind a refused run()", x.left(0), 0);
        x.run(0, 0);
        CHECK.due("left(0)", x.left(0), 5);
        for (int k : new int[] {-1, -2, -8, 40, 41, 100, LEAST, MOST}) {
            CHECK.due("left(" + k + ")", x.left(k), 0);
        }
    }

    private static void leftOfNoneSuch() {
        CHECK.edge(14, "NONE, 0 likewise");
        FallBench x = Check.bench("in r0\nin r7\nset r1 31\nstore r1 r0", 1, 2);
        for (int k = -1; k <= 40; k++) {
            CHECK.due("leftOf(" + k + ", 0) without", x.leftOf(k, 0), -1);
            CHECK.due("leftOf(" + k + ", 1) without", x.leftOf(k, 1), 0);
        }
        x.run(0, 0);
        cellDue(x, 39, 1, 0, 1);
        for (int k : new int[] {-1, -2, -8, 40, 41, 100, LEAST, MOST}) {
            CHECK.due("leftOf(" + k + ", 0)", x.leftOf(k, 0), -1);
            CHECK.due("leftOf(" + k + ", 1)", x.leftOf(k, 1), 0);
        }
    }
}
