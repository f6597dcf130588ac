/** Promises 15 to 17 and 23, 24: HEAPS and HELD. */
public final class SortTest {
    private static final Check CHECK = new Check("SortTest");
    /** The first byte chooses: 0 well, 1 read, 2 write, 3 jump, 4 endless, 5 read of another MAKER, 6 other act. */
    private static final String CHOICE = "in r0\nin r1\nset r2 40\nset r3 7\nmul r0 r3\nset r3 8\nadd r0 r3\njump r0\n"
            + "stop\nstop\nstop\nstop\nstop\nstop\nstop\n"
            + "load r4 r1\nstop\nstop\nstop\nstop\nstop\nstop\n"
            + "store r1 r4\nstop\nstop\nstop\nstop\nstop\nstop\n"
            + "set r5 77\njump r5\nstop\nstop\nstop\nstop\nstop\n"
            + "a:go a\nstop\nstop\nstop\nstop\nstop\nstop\n"
            + "copy r1 r2\ngo b\nstop\nstop\nstop\nstop\nstop\n"
            + "b:load r4 r1\nstop";

    public static void main(String[] args) {
        heaps();
        noHeaps();
        manyHeaps();
        held();
        heldTold();
        wrongAsks();
        CHECK.finish();
    }

    private static FallBench chosen(int... choices) {
        FallBench x = new FallBench();
        CHECK.due("acts", Check.program(x, 0, CHOICE), 52);
        for (int i = 0; i < choices.length; i++) {
            Check.input(x, choices[i], 50 + i);
        }
        return x;
    }

    private static void heaps() {
        FallBench x = chosen(0, 4, 2, 1, 4, 6, 5, 3, 1, 2, 0, 6);
        // The INPUT, how many, the end, the act, the MAKER.
        int[][] want = {{1, 2, 4, -1, -1}, {2, 2, 2, 22, 1}, {3, 2, 1, 15, 1}, {5, 2, 1, 50, 1}, {6, 1, 1, 50, 2},
            {7, 1, 3, 30, 29}};
        CHECK.due("heaps", x.heaps(0), want.length);
        for (int k = 0; k < want.length; k++) {
            for (int what = 0; what < 5; what++) {
                CHECK.due("heap(0, " + k + ", " + what + ")", x.heap(0, k, what), want[k][what]);
            }
            CHECK.due("what 5", x.heap(0, k, 5), -1);
            CHECK.due("what -1", x.heap(0, k, -1), -1);
        }
        int[] of = {-1, 0, 1, 2, 0, 3, 4, 5, 2, 1, -1, 3};
        for (int i = 0; i < of.length; i++) {
            CHECK.due("heapOf(0, " + i + ")", x.heapOf(0, i), of[i]);
        }
        CHECK.due("other shelf", x.heaps(1), 0);
        CHECK.due("other shelf's heap", x.heapOf(1, 1), -1);
        for (int i = 0; i < 6; i++) {
            x.drop();
        }
        CHECK.due("heaps of those left", x.heaps(0), 4);
        CHECK.due("size of those left", x.heap(0, 3, 1), 1);
    }

    private static void noHeaps() {
        FallBench x = chosen(0, 0);
        CHECK.due("none", x.heaps(0), 0);
        CHECK.due("heap 0", x.heap(0, 0, 0), -1);
    }

    private static void manyHeaps() {
        FallBench x = new FallBench();
        StringBuilder text = new StringBuilder("in r0\nset r1 99\njump r0\n");
        for (int i = 3; i < 80; i++) {
            text.append("load r0 r1\n");
        }
        Check.program(x, 2, text.toString());
        for (int i = 0; i < 30; i++) {
            Check.input(x, 79 - i);
        }
        CHECK.due("30 heaps", x.heaps(2), 30);
        for (int i = 0; i < 30; i++) {
            CHECK.due("heapOf", x.heapOf(2, i), i);
            CHECK.due("act of heap", x.heap(2, i, 3), 79 - i);
        }
        CHECK.due("31st", x.heap(2, 30, 0), -1);
    }

    private static void held() {
        FallBench x = chosen(0, 1, 2, 3, 4, 5);
        Check.program(x, 1, "in r0\nset r1 3\nset r2 -1\nless r0 r1 a\nstop\na:load r0 r2");
        int[] want = {3, 4, 5, 2, 2, 2};
        int[] back = {2, 4, 5, 3, 3, 3};
        for (int i = 0; i < want.length; i++) {
            CHECK.due("held(0, 1, " + i + ")", x.held(0, 1, i), want[i]);
            CHECK.due("held(1, 0, " + i + ")", x.held(1, 0, i), back[i]);
        }
        int[] all = {0, 0, 3, 1, 1, 1};
        int[] self = {1, 0, 0, 0, 5, 0};
        for (int how = 0; how < 6; how++) {
            CHECK.due("heldAll(0, 1, " + how + ")", x.heldAll(0, 1, how), all[how]);
            CHECK.due("heldAll(0, 0, " + how + ")", x.heldAll(0, 0, how), self[how]);
        }
    }

    private static void heldTold() {
        FallBench x = new FallBench();
        Check.input(x, 1, 2);
        Check.program(x, 0, "in r0\nout r0\nin r0\nout r0");
        Check.program(x, 1, "in r0\nin r1\nout r0\nout r1\nstop");
        CHECK.due("the same told", x.held(0, 1, 0), 0);
        Check.program(x, 1, "in r0\nin r1\nout r1\nout r0");
        CHECK.due("told in another order", x.held(0, 1, 0), 1);
        Check.program(x, 1, "in r0\nin r1\nout r1\nout r1");
        CHECK.due("the first told otherwise", x.held(0, 1, 0), 1);
        Check.program(x, 1, "in r0\nout r0\nout r0");
        CHECK.due("the last told otherwise", x.held(0, 1, 0), 1);
        Check.program(x, 1, "in r0\nout r0");
        CHECK.due("fewer told", x.held(0, 1, 0), 1);
        Check.program(x, 2, "in r1\nout r1");
        CHECK.due("what an earlier run told is no more", x.held(2, 1, 0), 0);
        Check.program(x, 2, "");
        CHECK.due("none told", x.held(2, 0, 0), 1);
        Check.program(x, 0, "set r1 1\nset r2 45\na:add r0 r1\nout r0\nless r0 r2 a");
        Check.program(x, 1, "set r1 1\nset r2 44\na:add r0 r1\nout r0\nless r0 r2 a");
        CHECK.due("all told are counted", x.held(0, 1, 0), 1);
        Check.program(x, 1, "set r1 1\nset r2 44\na:add r0 r1\nout r0\nless r0 r2 a\nadd r0 r1\nout r0");
        CHECK.due("as many", x.held(0, 1, 0), 0);
    }

    private static void wrongAsks() {
        FallBench x = chosen(1, 2);
        int[] none = {-1, 3, Integer.MIN_VALUE, Integer.MAX_VALUE};
        for (int n : none) {
            CHECK.due("heaps", x.heaps(n), -1);
            CHECK.due("heap of shelf", x.heap(n, 0, 0), -1);
            CHECK.due("heap", x.heap(0, n, 0), -1);
            CHECK.due("heapOf of shelf", x.heapOf(n, 0), -1);
            CHECK.due("heapOf", x.heapOf(0, n), -1);
            CHECK.due("held first", x.held(n, 0, 0), -1);
            CHECK.due("held second", x.held(0, n, 0), -1);
            CHECK.due("held input", x.held(0, 0, n), -1);
            CHECK.due("heldAll first", x.heldAll(n, 0, 0), -1);
            CHECK.due("heldAll second", x.heldAll(0, n, 0), -1);
        }
        CHECK.due("heap 2", x.heap(0, 2, 0), -1);
        CHECK.due("heapOf 2", x.heapOf(0, 2), -1);
        CHECK.due("held 2", x.held(0, 0, 2), -1);
        CHECK.due("heldAll how 6", x.heldAll(0, 0, 6), -1);
        CHECK.due("heldAll how -1", x.heldAll(0, 0, -1), -1);
    }
}
