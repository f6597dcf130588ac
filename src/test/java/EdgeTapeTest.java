/** The boundary cases of promises 1, 2, 3, 7, 8, 9, 25, one function for each sentence that names one. */
public final class EdgeTapeTest {
    private static final Check CHECK = new Check("EdgeTapeTest");
    private static final int LEAST = Integer.MIN_VALUE;
    private static final int MOST = Integer.MAX_VALUE;

    public static void main(String[] args) {
        newProgramsAreEmpty();
        newHasNoInputs();
        newIsNoOther();
        callsUpTo512();
        feedHighestFirst();
        feedBehindThose();
        feedAboveFull();
        endKeepsTheFirst();
        endHasNotSoMany();
        endBelowZero();
        inputOfAnEmptyTape();
        inputOf24();
        inputAbove24();
        inputThereAre30();
        byteOfNoInput();
        byteOfNoByte();
        byteOfLeastAndMost();
        dropLatest();
        dropNone();
        aboutInputs();
        aboutTape();
        aboutShelves();
        aboutAnother();
        CHECK.finish();
    }

    /** The TAPE must be empty; it has that many bytes then, all of them blanks. */
    private static void layBlanks(FallBench x, int count) {
        Check.lay(x, " ".repeat(count));
    }

    private static void newProgramsAreEmpty() {
        CHECK.edge(1, "Empty programs (which end WELL)");
        FallBench x = new FallBench();
        for (int s = 0; s < 3; s++) {
            CHECK.due("about", x.about(10 + s), 0);
            CHECK.due("act", x.act(s, 0, 0), -1);
            CHECK.due("number", x.act(s, 0, 3), -1000000);
        }
        Check.input(x, 1, 2);
        for (int s = 0; s < 3; s++) {
            CHECK.due("run", x.run(s, 0), 0);
            CHECK.due("STEPS", x.ran(0), 0);
            CHECK.due("told", x.ran(5), 0);
            CHECK.due("read", x.ran(6), 0);
            CHECK.due("heaps", x.heaps(s), 0);
            CHECK.due("held", x.held(s, (s + 1) % 3, 0), 0);
        }
    }

    private static void newHasNoInputs() {
        CHECK.edge(1, "no INPUTS");
        FallBench x = new FallBench();
        CHECK.due("about(0)", x.about(0), 0);
        CHECK.due("about(1)", x.about(1), 0);
        CHECK.due("byteOf", x.byteOf(0, 0), -1);
        CHECK.due("run", x.run(0, 0), -1);
        CHECK.due("heapOf", x.heapOf(0, 0), -1);
        CHECK.due("small", x.small(0, 0), -1);
        CHECK.due("ruled", x.ruled(0, 0), -1);
        CHECK.due("nearest", x.nearest(0, 0), -1);
        CHECK.due("nearestByte", x.nearestByte(0, 0), -1);
        CHECK.due("held", x.held(0, 0, 0), -1);
        for (int s = 0; s < 3; s++) {
            CHECK.due("heaps", x.heaps(s), 0);
            CHECK.due("heldAll", x.heldAll(s, s, 0), 0);
        }
        CHECK.due("drop", x.drop(), false);
        CHECK.due("the first", x.input(), 0);
    }

    private static void newIsNoOther() {
        CHECK.edge(1, "A new object: Empty programs, no INPUTS, whatever another object has");
        FallBench other = Check.bench("in r0\nout r0\nload r1 r0", 99);
        other.run(0, 0);
        other.small(0, 0);
        Check.lay(other, 1, 2, 3);
        FallBench x = new FallBench();
        CHECK.due("about(0)", x.about(0), 0);
        CHECK.due("about(1)", x.about(1), 0);
        CHECK.due("about(10)", x.about(10), 0);
        CHECK.due("ran", x.ran(0), -1);
        CHECK.due("told", x.told(0), 0);
        CHECK.due("left", x.left(0), 0);
        Check.input(x, 5);
        CHECK.due("the other's byte", other.byteOf(0, 0), 99);
        CHECK.due("the other's TAPE", other.about(1), 3);
    }

    private static void callsUpTo512() {
        CHECK.edge(1, "An object is used for at most 512 calls");
        FallBench x = Check.bench("in r0\nload r1 r0\nout r0", 40, 3);
        // The first seven are those of bench: feed, feed, end, program, feed, end, input.
        for (int call = 8; call < 510; call++) {
            CHECK.due("run", x.run(0, 0), 1);
        }
        CHECK.due("510th", x.small(0, 0), 0);
        CHECK.due("511th", x.nearestByte(0, 0), 0);
        CHECK.due("512th", x.ran(2), 40);
        x = new FallBench();
        for (int call = 1; call < 512; call += 2) {
            CHECK.due("input", x.input(), 0);
            CHECK.due("drop", x.drop(), true);
        }
        x = new FallBench();
        for (int call = 1; call < 512; call++) {
            CHECK.due("program", x.program(call % 3), 0);
        }
        CHECK.due("512th", x.feed(1, 2, 3, 4, 5), 20);
    }

    private static void feedHighestFirst() {
        CHECK.edge(2, "Twenty bytes come, of each number the highest first");
        FallBench x = new FallBench();
        CHECK.due("feed", x.feed(LEAST, MOST, -1, 0x00ff8001, 0x01020304), 20);
        x.input();
        CHECK.bytesDue(x, 0, 128, 0, 0, 0, 127, 255, 255, 255, 255, 255, 255, 255, 0, 255, 128, 1, 1, 2, 3, 4);
    }

    private static void feedBehindThose() {
        CHECK.edge(2, "behind those on the TAPE: how many there are");
        FallBench x = new FallBench();
        for (int n = 1; n <= 50; n++) {
            CHECK.due("feed", x.feed(n, n, n, n, n), 20 * n);
            CHECK.due("about(1)", x.about(1), 20 * n);
        }
        x.end(22);
        CHECK.due("feed", x.feed(0x07080910, 0, 0, 0, 0), 42);
        x.end(24);
        x.input();
        CHECK.bytesDue(x, 0, 0, 0, 0, 1, 0, 0, 0, 1, 0, 0, 0, 1, 0, 0, 0, 1, 0, 0, 0, 1, 0, 0, 7, 8);
    }

    private static void feedAboveFull() {
        CHECK.edge(2, "NONE, and nothing comes, if there would be more than 1,000");
        for (int length = 979; length <= 1000; length++) {
            FallBench x = new FallBench();
            Check.lay(x, " ".repeat(length - 4) + "stop");
            boolean fits = length + 20 <= 1000;
            CHECK.due("feed at " + length, x.feed(1, 1, 1, 1, 1), fits ? length + 20 : -1);
            CHECK.due("about(1) at " + length, x.about(1), fits ? length + 20 : length);
            CHECK.due("program at " + length, x.program(0), fits ? -1 : 1);
        }
    }

    private static void endKeepsTheFirst() {
        CHECK.edge(3, "The TAPE has its first n bytes: n");
        for (int n = 0; n <= 20; n++) {
            FallBench x = new FallBench();
            x.feed(0x01020304, 0x05060708, 0x090a0b0c, 0x0d0e0f10, 0x11121314);
            CHECK.due("end(" + n + ")", x.end(n), n);
            CHECK.due("about(1)", x.about(1), n);
            x.input();
            CHECK.due("the last", x.byteOf(0, n - 1), n == 0 ? -1 : n);
            CHECK.due("behind it", x.byteOf(0, n), -1);
        }
        FallBench x = new FallBench();
        CHECK.due("end(0) of an empty TAPE", x.end(0), 0);
        layBlanks(x, 1000);
        CHECK.due("end(1000) of a full TAPE", x.end(1000), 1000);
        CHECK.due("end(999) of a full TAPE", x.end(999), 999);
    }

    private static void endHasNotSoMany() {
        CHECK.edge(3, "NONE, doing nothing, if it has not so many");
        FallBench x = new FallBench();
        CHECK.due("end(1) of an empty TAPE", x.end(1), -1);
        Check.lay(x, 5, 6, 7);
        for (int n : new int[] {4, 20, 1000, 1001, MOST}) {
            CHECK.due("end(" + n + ")", x.end(n), -1);
            CHECK.due("about(1)", x.about(1), 3);
        }
        x.input();
        CHECK.bytesDue(x, 0, 5, 6, 7);
        layBlanks(x, 1000);
        CHECK.due("end(1001) of a full TAPE", x.end(1001), -1);
        CHECK.due("about(1)", x.about(1), 1000);
    }

    private static void endBelowZero() {
        CHECK.edge(3, "NONE, doing nothing, if n is below 0");
        FallBench x = new FallBench();
        CHECK.due("end(-1) of an empty TAPE", x.end(-1), -1);
        CHECK.due("about(1)", x.about(1), 0);
        Check.lay(x, 5, 6, 7);
        for (int n : new int[] {-1, -2, -3, -20, LEAST}) {
            CHECK.due("end(" + n + ")", x.end(n), -1);
            CHECK.due("about(1)", x.about(1), 3);
        }
        x.input();
        CHECK.bytesDue(x, 0, 5, 6, 7);
    }

    private static void inputOfAnEmptyTape() {
        CHECK.edge(7, "The TAPE (empty then) is an INPUT: its number");
        FallBench x = new FallBench();
        CHECK.due("of an empty TAPE", x.input(), 0);
        CHECK.bytesDue(x, 0);
        CHECK.due("of a byte", Check.input(x, 9), 1);
        CHECK.due("the TAPE is empty", x.about(1), 0);
        CHECK.due("of an empty TAPE again", x.input(), 2);
        CHECK.bytesDue(x, 1, 9);
        CHECK.bytesDue(x, 2);
        CHECK.due("about(0)", x.about(0), 3);
    }

    private static void inputOf24() {
        CHECK.edge(7, "24 bytes are an INPUT");
        FallBench x = new FallBench();
        int[] bytes = new int[24];
        for (int k = 0; k < 24; k++) {
            bytes[k] = 255 - k;
        }
        CHECK.due("input", Check.input(x, bytes), 0);
        CHECK.due("the TAPE is empty", x.about(1), 0);
        CHECK.bytesDue(x, 0, bytes);
    }

    private static void inputAbove24() {
        CHECK.edge(7, "NONE, and the TAPE stays: above 24 bytes");
        FallBench x = new FallBench();
        for (int length : new int[] {25, 40, 1000}) {
            layBlanks(x, length);
            CHECK.due("input of " + length, x.input(), -1);
            CHECK.due("about(1)", x.about(1), length);
            CHECK.due("about(0)", x.about(0), 0);
            x.end(0);
        }
        Check.lay(x, " ".repeat(22) + "abc");
        CHECK.due("input", x.input(), -1);
        x.end(24);
        CHECK.due("input", x.input(), 0);
        CHECK.due("byte 21", x.byteOf(0, 21), ' ');
        CHECK.due("byte 22", x.byteOf(0, 22), 'a');
        CHECK.due("byte 23", x.byteOf(0, 23), 'b');
    }

    private static void inputThereAre30() {
        CHECK.edge(7, "NONE, and the TAPE stays: there are 30");
        FallBench x = new FallBench();
        for (int i = 0; i < 30; i++) {
            CHECK.due("input", Check.input(x, i, 2 * i), i);
        }
        CHECK.due("of an empty TAPE", x.input(), -1);
        CHECK.due("31st", Check.input(x, 77, 78, 79), -1);
        CHECK.due("about(1)", x.about(1), 3);
        CHECK.due("about(0)", x.about(0), 30);
        CHECK.due("byteOf(30, 0)", x.byteOf(30, 0), -1);
        for (int i = 0; i < 30; i++) {
            CHECK.bytesDue(x, i, i, 2 * i);
        }
        x.drop();
        CHECK.due("when there are 29", x.input(), 29);
        CHECK.bytesDue(x, 29, 77, 78, 79);
    }

    private static void byteOfNoInput() {
        CHECK.edge(8, "NONE if there is none such: no such INPUT");
        FallBench x = new FallBench();
        Check.input(x, 1);
        Check.input(x, 2);
        for (int input : new int[] {2, 29, 30, 31, -1, LEAST, MOST}) {
            CHECK.due("byteOf(" + input + ", 0)", x.byteOf(input, 0), -1);
        }
        x.drop();
        CHECK.due("of one that is kept no more", x.byteOf(1, 0), -1);
        CHECK.due("of one that is kept", x.byteOf(0, 0), 1);
    }

    private static void byteOfNoByte() {
        CHECK.edge(8, "NONE if there is none such: no such byte");
        FallBench x = new FallBench();
        Check.input(x, new int[24]);
        Check.input(x, 1, 2, 3);
        x.input();
        for (int k : new int[] {-1, 24, 25, LEAST, MOST}) {
            for (int i = 0; i < 3; i++) {
                CHECK.due("byteOf(" + i + ", " + k + ")", x.byteOf(i, k), -1);
            }
        }
        CHECK.due("behind the last", x.byteOf(1, 3), -1);
        CHECK.due("of an empty INPUT", x.byteOf(2, 0), -1);
        x.drop();
        x.drop();
        x.drop();
        Check.input(x, 8);
        CHECK.due("what an INPUT had that is kept no more", x.byteOf(0, 1), -1);
    }

    private static void byteOfLeastAndMost() {
        CHECK.edge(8, "Byte k of an INPUT: bytes 0 .. 255");
        FallBench x = new FallBench();
        Check.input(x, 0, 1, 127, 128, 254, 255);
        CHECK.bytesDue(x, 0, 0, 1, 127, 128, 254, 255);
    }

    private static void dropLatest() {
        CHECK.edge(9, "The latest INPUT is kept no more: true");
        FallBench x = new FallBench();
        Check.program(x, 0, "in r0\nload r1 r0");
        for (int i = 0; i < 30; i++) {
            Check.input(x, 100 + i);
        }
        for (int left = 29; left >= 0; left--) {
            CHECK.due("drop", x.drop(), true);
            CHECK.due("about(0)", x.about(0), left);
            CHECK.due("the latest", x.byteOf(left, 0), -1);
            CHECK.due("the one ahead", x.byteOf(left - 1, 0), left == 0 ? -1 : 99 + left);
            CHECK.due("how many are heaped", x.heap(0, 0, 1), left == 0 ? -1 : left);
        }
    }

    private static void dropNone() {
        CHECK.edge(9, "false if there is none");
        FallBench x = new FallBench();
        CHECK.due("new", x.drop(), false);
        Check.input(x, 1);
        CHECK.due("of one", x.drop(), true);
        CHECK.due("of none", x.drop(), false);
        CHECK.due("of none again", x.drop(), false);
        CHECK.due("about(0)", x.about(0), 0);
        CHECK.due("the next is the first", Check.input(x, 2), 0);
        CHECK.bytesDue(x, 0, 2);
    }

    private static void aboutInputs() {
        CHECK.edge(25, "What 0: INPUTS");
        FallBench x = new FallBench();
        for (int i = 0; i < 30; i++) {
            CHECK.due("about(0)", x.about(0), i);
            x.input();
        }
        CHECK.due("about(0) of the most", x.about(0), 30);
        x.input();
        CHECK.due("about(0) behind a refused one", x.about(0), 30);
    }

    private static void aboutTape() {
        CHECK.edge(25, "1: bytes on the TAPE");
        FallBench x = new FallBench();
        CHECK.due("empty", x.about(1), 0);
        layBlanks(x, 1000);
        CHECK.due("full", x.about(1), 1000);
        x.program(0);
        CHECK.due("empty again", x.about(1), 0);
    }

    private static void aboutShelves() {
        CHECK.edge(25, "10 + s: acts of SHELF s");
        FallBench x = new FallBench();
        for (int s = 0; s < 3; s++) {
            Check.program(x, s, "stop\n".repeat(80 - s));
        }
        CHECK.due("about(10)", x.about(10), 80);
        CHECK.due("about(11)", x.about(11), 79);
        CHECK.due("about(12)", x.about(12), 78);
        x.program(1);
        CHECK.due("about(11) of an empty program", x.about(11), 0);
        CHECK.due("about(12)", x.about(12), 78);
    }

    private static void aboutAnother() {
        CHECK.edge(25, "NONE for another what");
        FallBench x = Check.bench("stop", 1, 2, 3);
        for (int what = -40; what <= 40; what++) {
            if (what != 0 && what != 1 && (what < 10 || what > 12)) {
                CHECK.due("about(" + what + ")", x.about(what), -1);
            }
        }
        CHECK.due("least", x.about(LEAST), -1);
        CHECK.due("most", x.about(MOST), -1);
    }
}
