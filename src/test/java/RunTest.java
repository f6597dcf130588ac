/** Promises 10 to 14: RUNS and what is told of the latest. */
public final class RunTest {
    private static final Check CHECK = new Check("RunTest");

    public static void main(String[] args) {
        arithmetic();
        reading();
        carrying();
        badEnds();
        jumps();
        endless();
        tellings();
        wrongAsks();
        latestStays();
        CHECK.finish();
    }

    private static FallBench ran(String text, int end, int... bytes) {
        FallBench x = new FallBench();
        Check.program(x, 0, text);
        Check.input(x, bytes);
        CHECK.due("run of '" + text.replace("\n", "\\n") + "'", x.run(0, 0), end);
        return x;
    }

    private static void ranDue(FallBench x, int... want) {
        for (int what = 0; what < want.length; what++) {
            CHECK.due("ran(" + what + ")", x.ran(what), want[what]);
        }
    }

    private static void arithmetic() {
        FallBench x = ran("set r0 7\nset r1 -3\nadd r0 r1\nout r0\nsub r1 r0\nout r1\nmul r1 r0\nout r1\nmul r1 r1\n"
                + "mul r1 r1\nmul r1 r1\nout r1\ncopy r2 r1\nout r2\nsub r2 r2\nout r2", 0);
        long big = 28L * 28 * 28 * 28 * 28 * 28 * 28 * 28;
        int[] want = {4, -7, -28, (int) big, (int) big, 0};
        for (int k = 0; k < want.length; k++) {
            CHECK.due("told " + k, x.told(k), want[k]);
        }
        ranDue(x, 16, -1, 0, -1, 0, 6, 0);
        x = ran("set r1 46341\nmul r1 r1\nset r2 -1\nadd r3 r2", 0);
        CHECK.due("wrapped", x.left(1), 46341 * 46341);
        CHECK.due("added to 0", x.left(3), -1);
        CHECK.due("MAKER of add", x.leftOf(3, 0), 3);
    }

    private static void reading() {
        FallBench x = ran("in r0\nin r1\nin r2\nin r3", 0, 255, 0);
        CHECK.due("first", x.left(0), 255);
        CHECK.due("second", x.left(1), 0);
        CHECK.due("behind the end", x.left(2), -1);
        CHECK.due("again", x.left(3), -1);
        CHECK.due("MAKER", x.leftOf(1, 0), 1);
        CHECK.due("MAKER behind the end", x.leftOf(2, 0), 2);
        CHECK.due("BYTES first", x.leftOf(0, 1), 1);
        CHECK.due("BYTES second", x.leftOf(1, 1), 2);
        CHECK.due("BYTES behind the end", x.leftOf(2, 1), 0);
        ranDue(x, 4, -1, 0, -1, 0, 0, 2);
        int[] bytes = new int[24];
        x = ran("set r2 24\nset r3 1\na:in r0\nadd r1 r0\nadd r4 r3\nless r4 r2 a", 0, bytes);
        CHECK.due("all BYTES", x.leftOf(1, 1), (1 << 24) - 1);
        CHECK.due("last BYTE", x.leftOf(0, 1), 1 << 23);
        CHECK.due("read", x.ran(6), 24);
    }

    private static void carrying() {
        String text = "in r0\nin r1\nin r2\nstore r0 r1\nload r3 r0\ncopy r4 r3\nload r5 r2\nset r6 9\nstore r6 r0\n"
                + "load r7 r6\nadd r4 r2";
        FallBench x = ran(text, 0, 5, 77, 6);
        CHECK.due("PLACE 5", x.left(13), 77);
        CHECK.due("PLACE 5 MAKER", x.leftOf(13, 0), 1);
        CHECK.due("PLACE 5 BYTES", x.leftOf(13, 1), 3);
        CHECK.due("r3", x.left(3), 77);
        CHECK.due("r3 MAKER", x.leftOf(3, 0), 1);
        CHECK.due("r3 BYTES", x.leftOf(3, 1), 3);
        CHECK.due("r4", x.left(4), 83);
        CHECK.due("r4 MAKER", x.leftOf(4, 0), 10);
        CHECK.due("r4 BYTES", x.leftOf(4, 1), 7);
        CHECK.due("r5", x.left(5), 0);
        CHECK.due("r5 MAKER", x.leftOf(5, 0), -1);
        CHECK.due("r5 BYTES", x.leftOf(5, 1), 4);
        CHECK.due("PLACE 9", x.left(17), 5);
        CHECK.due("PLACE 9 MAKER", x.leftOf(17, 0), 0);
        CHECK.due("PLACE 9 BYTES", x.leftOf(17, 1), 1);
        CHECK.due("r7 MAKER", x.leftOf(7, 0), 0);
        CHECK.due("r6 BYTES", x.leftOf(6, 1), 0);
        x = ran("in r0\nset r0 3\ncopy r1 r2", 0, 9);
        CHECK.due("set has no BYTES", x.leftOf(0, 1), 0);
        CHECK.due("copy of the first", x.leftOf(1, 0), -1);
        x = ran("in r0\nin r1\nin r2\nin r3\nsub r0 r1\nmul r2 r3", 0, 9, 9, 9, 9);
        CHECK.due("BYTES of sub", x.leftOf(0, 1), 3);
        CHECK.due("BYTES of mul", x.leftOf(2, 1), 12);
        CHECK.due("MAKER of sub", x.leftOf(0, 0), 4);
        CHECK.due("MAKER of mul", x.leftOf(2, 0), 5);
        x = ran("in r0\nin r1\ncopy r0 r1", 0, 9, 9);
        CHECK.due("copy forgets", x.leftOf(0, 1), 2);
    }

    private static void badEnds() {
        ranDue(ran("in r0\nload r1 r0\nstop", 0, 31), 3, -1, 0, -1, 0, 0, 1);
        ranDue(ran("in r0\nload r1 r0\nstop", 1, 32), 1, 1, 32, 0, 1, 0, 1);
        ranDue(ran("in r0\nload r1 r0\nstop", 1), 1, 1, -1, 0, 0, 0, 0);
        ranDue(ran("in r0\nstore r0 r1\nstop", 0, 31), 3, -1, 0, -1, 0, 0, 1);
        ranDue(ran("in r0\nin r2\nadd r0 r2\nstore r0 r1\nstop", 2, 31, 1), 3, 3, 32, 2, 3, 0, 2);
        ranDue(ran("set r1 32\nin r0\nstore r0 r1\nload r3 r0\nload r2 r3", 1, 4), 4, 4, 32, 0, 1, 0, 1);
        FallBench x = ran("set r0 5\nset r1 -1\nload r0 r1", 1);
        CHECK.due("the act is not done", x.left(0), 5);
    }

    private static void jumps() {
        ranDue(ran("set r0 2\njump r0\nstop", 0), 3, -1, 0, -1, 0, 0, 0);
        ranDue(ran("set r0 3\njump r0\nstop", 3), 1, 1, 3, 0, 0, 0, 0);
        ranDue(ran("set r0 -1\njump r0\nstop", 3), 1, 1, -1, 0, 0, 0, 0);
        ranDue(ran("in r0\njump r0\nout r0\nout r0\nout r0", 0, 3), 4, -1, 0, -1, 0, 2, 1);
        ranDue(ran("go e\nout r0\ne:", 0), 1, -1, 0, -1, 0, 0, 0);
        ranDue(ran("set r1 1\nless r0 r1 e\nout r0\ne:", 0), 2, -1, 0, -1, 0, 0, 0);
        ranDue(ran("set r1 1\nless r1 r1 e\nout r0\ne:", 0), 3, -1, 0, -1, 0, 1, 0);
        ranDue(ran("set r1 -1\nless r0 r1 e\nout r0\ne:", 0), 3, -1, 0, -1, 0, 1, 0);
        ranDue(ran("same r0 r1 e\nout r0\ne:", 0), 1, -1, 0, -1, 0, 0, 0);
        ranDue(ran("set r1 1\nsame r0 r1 e\nout r0\ne:", 0), 3, -1, 0, -1, 0, 1, 0);
        ranDue(ran("stop\nout r0", 0), 1, -1, 0, -1, 0, 0, 0);
    }

    /** Loops n times over two acts, behind three acts: then come the rest. */
    private static String loop(int n, String rest) {
        return "set r1 1\nset r2 " + n + "\nset r7 99\na:add r0 r1\nless r0 r2 a\n" + rest;
    }

    private static void endless() {
        ranDue(ran("a:go a", 4), 1000, -1, 0, -1, 0, 0, 0);
        ranDue(ran("jump r0", 4), 1000, -1, 0, -1, 0, 0, 0);
        ranDue(ran(loop(498, "out r0"), 0), 1000, -1, 0, -1, 0, 1, 0);
        ranDue(ran(loop(498, "stop"), 0), 1000, -1, 0, -1, 0, 0, 0);
        ranDue(ran(loop(498, "out r0\nstop"), 4), 1000, -1, 0, -1, 0, 1, 0);
        ranDue(ran(loop(498, "out r0\nload r0 r7"), 4), 1000, -1, 0, -1, 0, 1, 0);
        ranDue(ran(loop(498, "load r0 r7"), 1), 999, 5, 99, 2, 0, 0, 0);
        ranDue(ran(loop(498, "store r7 r0"), 2), 999, 5, 99, 2, 0, 0, 0);
        ranDue(ran(loop(498, "jump r7"), 3), 999, 5, 99, 2, 0, 0, 0);
        ranDue(ran(loop(498, "go e\nout r0\ne:"), 0), 1000, -1, 0, -1, 0, 0, 0);
    }

    private static void tellings() {
        FallBench x = ran("set r1 1\nset r2 45\na:add r0 r1\nout r0\nless r0 r2 a", 0);
        CHECK.due("all are counted", x.ran(5), 45);
        CHECK.due("first", x.told(0), 1);
        CHECK.due("40th", x.told(39), 40);
        CHECK.due("41st is not kept", x.told(40), 0);
        CHECK.due("45th is not kept", x.told(44), 0);
        CHECK.due("below", x.told(-1), 0);
        CHECK.due("least", x.told(Integer.MIN_VALUE), 0);
        CHECK.due("most", x.told(Integer.MAX_VALUE), 0);
        Check.program(x, 0, "set r0 9\nout r0");
        x.run(0, 0);
        CHECK.due("of the latest", x.told(0), 9);
        CHECK.due("not of the one ahead", x.told(1), 0);
        CHECK.due("counted anew", x.ran(5), 1);
    }

    private static void wrongAsks() {
        FallBench x = ran("set r7 5\nset r0 31\nstore r0 r7", 0);
        CHECK.due("r7", x.left(7), 5);
        CHECK.due("PLACE 0", x.left(8), 0);
        CHECK.due("PLACE 31", x.left(39), 5);
        CHECK.due("PLACE 31 MAKER", x.leftOf(39, 0), 0);
        int[] none = {-1, 40, Integer.MIN_VALUE, Integer.MAX_VALUE};
        for (int k : none) {
            CHECK.due("left(" + k + ")", x.left(k), 0);
            CHECK.due("leftOf(" + k + ", 0)", x.leftOf(k, 0), -1);
            CHECK.due("leftOf(" + k + ", 1)", x.leftOf(k, 1), 0);
            CHECK.due("run(" + k + ", 0)", x.run(k, 0), -1);
            CHECK.due("run(0, " + k + ")", x.run(0, k), -1);
        }
        CHECK.due("run(3, 0)", x.run(3, 0), -1);
        CHECK.due("run(0, 1)", x.run(0, 1), -1);
        CHECK.due("leftOf what 2", x.leftOf(0, 2), -1);
        CHECK.due("ran(-1)", x.ran(-1), -1);
        CHECK.due("ran(7)", x.ran(7), -1);
        CHECK.due("nothing done", x.ran(0), 3);
    }

    private static void latestStays() {
        FallBench x = ran("in r0\nload r1 r0", 1, 40, 2, 3);
        Check.program(x, 1, "set r0 1\nout r0\nstop");
        x.heaps(1);
        x.heap(1, 0, 0);
        x.heapOf(1, 0);
        x.small(0, 0);
        x.ruled(0, 0);
        x.nearest(0, 0);
        x.nearestByte(0, 0);
        x.held(0, 1, 0);
        x.heldAll(1, 0, 0);
        Check.program(x, 0, "");
        x.drop();
        ranDue(x, 1, 1, 40, 0, 1, 0, 1);
        CHECK.due("left stays", x.left(0), 40);
    }
}
