/** The boundary cases of promises 15, 16, 17, 23, 24, one function for each sentence that names one. */
public final class EdgeSortTest {
    private static final Check CHECK = new Check("EdgeSortTest");
    private static final int LEAST = Integer.MIN_VALUE;
    private static final int MOST = Integer.MAX_VALUE;
    private static final int[] NO_SHELVES = {-1, -2, 3, 4, 10, LEAST, MOST};
    /** By the first byte: 0 ends WELL, 1 READ, 2 WRITE, 3 JUMP, 4 or more ENDLESS; the wrong value is told by act 5. */
    private static final String BY_BYTE = "in r0\nset r1 1\nset r2 2\nset r3 3\nset r4 0\nset r7 99\n"
            + "same r0 r4 w\nsame r0 r1 a\nsame r0 r2 b\nsame r0 r3 c\nd:go d\n"
            + "a:load r5 r7\nb:store r7 r5\nc:jump r7\nw:";

    public static void main(String[] args) {
        heapsOfNone();
        heapsButWell();
        heapsOfEndless();
        heapsByEndActMaker();
        heapsByLeastInput();
        heaps30();
        heapsNoShelf();
        heapOfActAndMaker();
        heapNoneSuch();
        heapOfWell();
        heapOfNoneSuch();
        heldWellOnBoth();
        heldToldOtherwise();
        heldMoreThanKept();
        heldMendedAndNew();
        heldBadlyOnBoth();
        heldEndlessIsBadly();
        heldOneIsNone();
        heldAllCounts();
        heldAllNone();
        CHECK.finish();
    }

    private static FallBench byBytes(int... firstBytes) {
        FallBench x = new FallBench();
        CHECK.due("program", Check.program(x, 0, BY_BYTE), 14);
        for (int b : firstBytes) {
            Check.input(x, b);
        }
        return x;
    }

    private static void heapDue(FallBench x, int k, int... want) {
        for (int what = 0; what < want.length; what++) {
            CHECK.due("heap(0, " + k + ", " + what + ")", x.heap(0, k, what), want[what]);
        }
    }

    private static void heapsOfNone() {
        CHECK.edge(15, "How many HEAPS: none without INPUTS");
        FallBench x = byBytes();
        for (int s = 0; s < 3; s++) {
            CHECK.due("heaps", x.heaps(s), 0);
            CHECK.due("heap", x.heap(s, 0, 0), -1);
        }
        Check.input(x, 1);
        CHECK.due("heaps of one", x.heaps(0), 1);
        x.drop();
        CHECK.due("heaps of none", x.heaps(0), 0);
        CHECK.due("heap of none", x.heap(0, 0, 1), -1);
    }

    private static void heapsButWell() {
        CHECK.edge(15, "HEAPS: but for those that end WELL");
        FallBench x = byBytes(0, 0, 0);
        CHECK.due("heaps of all WELL", x.heaps(0), 0);
        CHECK.due("heap of all WELL", x.heap(0, 0, 0), -1);
        x = byBytes(0, 1, 0);
        CHECK.due("heaps of one that is not", x.heaps(0), 1);
        heapDue(x, 0, 1, 1, 1, 11, 5);
    }

    private static void heapsOfEndless() {
        CHECK.edge(15, "CAUSE of 4 the end alone");
        // They go round in different acts, and yet their CAUSE is one.
        FallBench x = Check.bench("in r0\nsame r0 r1 b\na:go a\nb:go b", 0);
        Check.input(x, 1);
        Check.input(x, 2);
        CHECK.due("heaps", x.heaps(0), 1);
        heapDue(x, 0, 0, 3, 4, -1, -1);
    }

    private static void heapsByEndActMaker() {
        CHECK.edge(15, "CAUSE of an end 1, 2, 3: the end, the act, and the WRONG value's MAKER");
        FallBench x = byBytes(1, 2, 3);
        CHECK.due("another end and act", x.heaps(0), 3);
        x = Check.bench("in r0\nset r1 99\nsame r0 r2 b\na:load r3 r1\nb:load r3 r1", 0);
        Check.input(x, 1);
        CHECK.due("another act alone", x.heaps(0), 2);
        x = Check.bench("in r0\nset r1 99\nsame r0 r2 a\nset r1 99\na:load r3 r1", 0);
        Check.input(x, 1);
        CHECK.due("another MAKER alone", x.heaps(0), 2);
        x = Check.bench("in r0\nload r1 r0", 40);
        Check.input(x, 41);
        x.input();
        CHECK.due("another WRONG value alone", x.heaps(0), 1);
        x = Check.bench("in r0\nin r1\nsame r0 r2 a\nadd r1 r0\nset r0 0\nadd r1 r0\na:load r3 r1", 50, 50);
        Check.input(x, 60, 50);
        CHECK.due("other BYTES alone", x.heaps(0), 1);
    }

    private static void heapsByLeastInput() {
        CHECK.edge(15, "HEAPS: numbered by their least INPUT");
        FallBench x = byBytes(0, 3, 4, 3, 1, 9, 2, 1, 0, 3);
        CHECK.due("heaps", x.heaps(0), 4);
        heapDue(x, 0, 1, 3, 3, 13, 5);
        heapDue(x, 1, 2, 2, 4, -1, -1);
        heapDue(x, 2, 4, 2, 1, 11, 5);
        heapDue(x, 3, 6, 1, 2, 12, 5);
    }

    private static void heaps30() {
        CHECK.edge(15, "INPUTS, 30 at most: so many HEAPS, or so many in one");
        FallBench x = new FallBench();
        Check.program(x, 0, "in r0\nset r1 99\njump r0\n" + "load r2 r1\n".repeat(77));
        Check.program(x, 1, "set r1 99\nstore r1 r2");
        for (int i = 0; i < 30; i++) {
            Check.input(x, 79 - i);
        }
        CHECK.due("heaps", x.heaps(0), 30);
        for (int k = 0; k < 30; k++) {
            heapDue(x, k, k, 1, 1, 79 - k, 1);
            CHECK.due("heapOf", x.heapOf(0, k), k);
        }
        CHECK.due("heap(0, 30, 0)", x.heap(0, 30, 0), -1);
        CHECK.due("heaps(1)", x.heaps(1), 1);
        CHECK.due("30 in one", x.heap(1, 0, 1), 30);
        CHECK.due("heapOf the last", x.heapOf(1, 29), 0);
    }

    private static void heapsNoShelf() {
        CHECK.edge(15, "NONE if there is no such SHELF");
        FallBench x = byBytes(1, 2);
        for (int shelf : NO_SHELVES) {
            CHECK.due("heaps(" + shelf + ")", x.heaps(shelf), -1);
        }
        CHECK.due("heaps(2) of an empty program", x.heaps(2), 0);
    }

    private static void heapOfActAndMaker() {
        CHECK.edge(16, "3: the act (NONE), 4: the MAKER (NONE)");
        FallBench x = byBytes(4, 1);
        heapDue(x, 0, 0, 1, 4, -1, -1);
        heapDue(x, 1, 1, 1, 1, 11, 5);
        // The act and the MAKER 0 are no NONE.
        x = Check.bench("in r0\njump r0", 2);
        heapDue(x, 0, 0, 1, 3, 1, 0);
        x = Check.bench("load r1 r0\nin r0\njump r2", 99);
        heapDue(x, 0, 0, 1, 1, 0, 1);
    }

    private static void heapNoneSuch() {
        CHECK.edge(16, "NONE if there is none such");
        FallBench x = byBytes(1, 2, 0, 1);
        for (int what = 0; what < 5; what++) {
            for (int k : new int[] {-1, -2, 2, 3, 29, 30, LEAST, MOST}) {
                CHECK.due("heap(0, " + k + ", " + what + ")", x.heap(0, k, what), -1);
            }
            for (int shelf : NO_SHELVES) {
                CHECK.due("heap(" + shelf + ", 0, " + what + ")", x.heap(shelf, 0, what), -1);
            }
            CHECK.due("heap(1, 0, " + what + ")", x.heap(1, 0, what), -1);
        }
        for (int what : new int[] {-1, -2, 5, 6, LEAST, MOST}) {
            CHECK.due("heap(0, 0, " + what + ")", x.heap(0, 0, what), -1);
        }
    }

    private static void heapOfWell() {
        CHECK.edge(17, "NONE if it ends WELL");
        FallBench x = byBytes(0, 1, 4, 0);
        CHECK.due("heapOf(0, 0)", x.heapOf(0, 0), -1);
        CHECK.due("heapOf(0, 1)", x.heapOf(0, 1), 0);
        CHECK.due("heapOf(0, 2)", x.heapOf(0, 2), 1);
        CHECK.due("heapOf(0, 3)", x.heapOf(0, 3), -1);
        CHECK.due("heapOf(1, 1) of an empty program", x.heapOf(1, 1), -1);
    }

    private static void heapOfNoneSuch() {
        CHECK.edge(17, "NONE if there is none such");
        FallBench x = byBytes(1, 1, 1);
        x.heaps(0);
        x.drop();
        for (int input : new int[] {2, 3, 29, 30, -1, LEAST, MOST}) {
            CHECK.due("heapOf(0, " + input + ")", x.heapOf(0, input), -1);
        }
        for (int shelf : NO_SHELVES) {
            CHECK.due("heapOf(" + shelf + ", 0)", x.heapOf(shelf, 0), -1);
        }
        CHECK.due("heapOf(0, 1)", x.heapOf(0, 1), 0);
    }

    /** How the texts are HELD, with an INPUT of no bytes. */
    private static void heldDue(String first, String second, int want) {
        FallBench x = Check.bench(first);
        Check.program(x, 2, second);
        String call = "held of '" + first.replace("\n", "\\n") + "' and '" + second.replace("\n", "\\n") + "'";
        CHECK.due(call, x.held(0, 2, 0), want);
    }

    private static void heldWellOnBoth() {
        CHECK.edge(23, "0: ends WELL on both, the same told");
        heldDue("", "", 0);
        heldDue("", "stop", 0);
        heldDue("out r0", "out r0", 0);
        heldDue("set r0 5\nout r0\nout r0", "set r1 5\nout r1\nset r2 1\nout r1\nstop", 0);
    }

    private static void heldToldOtherwise() {
        CHECK.edge(23, "1: WELL on both, told otherwise");
        heldDue("", "out r0", 1);
        heldDue("out r0", "", 1);
        heldDue("out r0", "out r0\nout r0", 1);
        heldDue("out r0\nout r0", "out r0", 1);
        heldDue("out r0", "set r0 1\nout r0", 1);
        heldDue("out r0\nset r0 1\nout r0", "out r0\nset r0 2\nout r0", 1);
        heldDue("set r0 1\nout r0\nout r1", "set r0 1\nout r1\nout r0", 1);
    }

    private static void heldMoreThanKept() {
        CHECK.edge(23, "the same told (40 are kept, all counted)");
        String forty = "out r0\n".repeat(40);
        String butOne = "out r0\n".repeat(39);
        String other = "set r0 1\nout r0\n";
        heldDue(forty, forty, 0);
        heldDue(forty, butOne, 1);
        heldDue(forty, butOne + other, 1);
        heldDue(forty, forty + "out r0", 1);
        heldDue(forty + "out r0", forty, 1);
        heldDue(forty + "out r0", forty + "out r0", 0);
        heldDue(forty + "out r0", forty + "out r0\nout r0", 1);
        heldDue(forty + "out r0", butOne + other + "set r0 0\nout r0", 1);
    }

    private static void heldMendedAndNew() {
        CHECK.edge(23, "2: badly on the first, WELL on the second (MENDED); 3: WELL on the first, badly on the second (NEW)");
        String[] bad = {"set r1 32\nload r0 r1", "set r1 32\nstore r1 r0", "set r1 32\njump r1", "a:go a"};
        for (String text : bad) {
            heldDue(text, "", 2);
            heldDue("", text, 3);
            // What is told has no part in it.
            heldDue("out r0\n" + text.replace("go a", "jump r0"), "out r0", 2);
            heldDue("out r0", "out r0\n" + text.replace("go a", "jump r0"), 3);
        }
    }

    private static void heldBadlyOnBoth() {
        CHECK.edge(23, "4: badly on both, CAUSES alike but for numbers of acts (ends alike); 5: badly on both, ends unlike");
        String[] bad = {"set r1 32\nload r0 r1", "set r1 32\nstore r1 r0", "set r1 32\njump r1", "a:go a"};
        String[] later = {"out r0\nset r1 -1\nout r1\nload r2 r1", "in r1\nout r1\nstore r1 r0", "in r1\nout r1\njump r1",
            "a:b:out r0\ngo b"};
        for (int i = 0; i < bad.length; i++) {
            for (int k = 0; k < later.length; k++) {
                heldDue(bad[i], later[k], i == k ? 4 : 5);
                heldDue(later[k], bad[i], i == k ? 4 : 5);
            }
        }
    }

    private static void heldEndlessIsBadly() {
        CHECK.edge(23, "(ENDLESS is badly.)");
        heldDue("a:go a", "a:go a", 4);
        heldDue("a:go a", "stop", 2);
        heldDue("stop", "a:go a", 3);
        heldDue("a:go a", "in r0\njump r0", 5);
        heldDue("in r0\njump r0", "a:go a", 5);
    }

    private static void heldOneIsNone() {
        CHECK.edge(23, "NONE if one is none");
        FallBench x = byBytes(0, 1);
        for (int shelf : NO_SHELVES) {
            CHECK.due("held(" + shelf + ", 0, 0)", x.held(shelf, 0, 0), -1);
            CHECK.due("held(0, " + shelf + ", 0)", x.held(0, shelf, 0), -1);
            CHECK.due("held(" + shelf + ", " + shelf + ", 0)", x.held(shelf, shelf, 0), -1);
        }
        for (int input : new int[] {2, 3, 29, 30, -1, LEAST, MOST}) {
            CHECK.due("held(0, 0, " + input + ")", x.held(0, 0, input), -1);
        }
        CHECK.due("held(0, 0, 1)", x.held(0, 0, 1), 4);
        x.drop();
        CHECK.due("of one that is kept no more", x.held(0, 0, 1), -1);
    }

    private static void heldAllCounts() {
        CHECK.edge(24, "How many INPUTS are HELD as that (0 .. 5)");
        FallBench x = byBytes();
        for (int how = 0; how < 6; how++) {
            CHECK.due("heldAll without INPUTS", x.heldAll(0, 1, how), 0);
        }
        Check.program(x, 1, "in r0\nset r1 2\nset r2 5\nless r1 r0 a\nless r0 r1 b\nout r0\nb:stop\n"
                + "a:set r7 99\nsame r0 r2 e\nload r1 r7\ne:");
        // 0: WELL and WELL, 1: READ and WELL, 2: WRITE and WELL, 3: JUMP and READ, 4: ENDLESS and READ, 5: ENDLESS and WELL.
        for (int i = 0; i < 30; i++) {
            Check.input(x, i % 6);
        }
        int[] want = {5, 0, 15, 0, 0, 10};
        int[] back = {5, 0, 0, 15, 0, 10};
        int[] self = {5, 0, 0, 0, 25, 0};
        int[] empty = {5, 0, 25, 0, 0, 0};
        for (int how = 0; how < 6; how++) {
            CHECK.due("heldAll(0, 1, " + how + ")", x.heldAll(0, 1, how), want[how]);
            CHECK.due("heldAll(1, 0, " + how + ")", x.heldAll(1, 0, how), back[how]);
            CHECK.due("heldAll(0, 0, " + how + ")", x.heldAll(0, 0, how), self[how]);
            CHECK.due("heldAll(0, 2, " + how + ")", x.heldAll(0, 2, how), empty[how]);
        }
        Check.program(x, 2, "out r0");
        CHECK.due("told otherwise", x.heldAll(0, 2, 1), 5);
        CHECK.due("the same told", x.heldAll(2, 2, 0), 30);
    }

    private static void heldAllNone() {
        CHECK.edge(24, "NONE likewise");
        FallBench x = byBytes(0, 1);
        for (int shelf : NO_SHELVES) {
            for (int how = 0; how < 6; how++) {
                CHECK.due("heldAll(" + shelf + ", 0, " + how + ")", x.heldAll(shelf, 0, how), -1);
                CHECK.due("heldAll(0, " + shelf + ", " + how + ")", x.heldAll(0, shelf, how), -1);
            }
        }
        for (int how : new int[] {-1, -2, 6, 7, LEAST, MOST}) {
            CHECK.due("heldAll(0, 1, " + how + ")", x.heldAll(0, 1, how), -1);
        }
        x.drop();
        x.drop();
        CHECK.due("no SHELF and no INPUTS", x.heldAll(3, 0, 0), -1);
        CHECK.due("no such how and no INPUTS", x.heldAll(0, 0, 6), -1);
    }
}
