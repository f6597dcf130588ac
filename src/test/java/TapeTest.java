/** Promises 1, 2, 3, 7, 8, 9, 25: a new object, the TAPE, INPUTS and about. */
public final class TapeTest {
    private static final Check CHECK = new Check("TapeTest");

    public static void main(String[] args) {
        newObject();
        feedAndEnd();
        fullTape();
        inputs();
        inputLimits();
        about();
        CHECK.finish();
    }

    private static void newObject() {
        FallBench x = new FallBench();
        for (int s = 0; s < 3; s++) {
            CHECK.due("new about(10 + s)", x.about(10 + s), 0);
            CHECK.due("new heaps", x.heaps(s), 0);
        }
        CHECK.due("new about(0)", x.about(0), 0);
        CHECK.due("new about(1)", x.about(1), 0);
        CHECK.due("new fault(0)", x.fault(0), 0);
        CHECK.due("new fault(1)", x.fault(1), -1);
        CHECK.due("new smallByte", x.smallByte(0, false), -1);
        CHECK.due("new smallByte low", x.smallByte(0, true), -1);
        for (int what = -1; what <= 7; what++) {
            CHECK.due("new ran", x.ran(what), -1);
        }
        CHECK.due("new told", x.told(0), 0);
        CHECK.due("new left", x.left(0), 0);
        CHECK.due("new leftOf 0", x.leftOf(0, 0), -1);
        CHECK.due("new leftOf 1", x.leftOf(0, 1), 0);
        CHECK.due("input of nothing", x.input(), 0);
        for (int s = 0; s < 3; s++) {
            CHECK.due("empty program", x.run(s, 0), 0);
            CHECK.due("empty program's steps", x.ran(0), 0);
        }
    }

    private static void feedAndEnd() {
        FallBench x = new FallBench();
        CHECK.due("feed", x.feed(0x01020304, 0xfffefdfc, 0x80000000, 0, 0x7f0000ff), 20);
        CHECK.due("about(1)", x.about(1), 20);
        CHECK.due("end below", x.end(-1), -1);
        CHECK.due("end least", x.end(Integer.MIN_VALUE), -1);
        CHECK.due("end above", x.end(21), -1);
        CHECK.due("end most", x.end(Integer.MAX_VALUE), -1);
        CHECK.due("nothing done", x.about(1), 20);
        CHECK.due("end all", x.end(20), 20);
        CHECK.due("input", x.input(), 0);
        int[] want = {1, 2, 3, 4, 255, 254, 253, 252, 128, 0, 0, 0, 0, 0, 0, 0, 127, 0, 0, 255};
        for (int k = 0; k < 20; k++) {
            CHECK.due("byteOf " + k, x.byteOf(0, k), want[k]);
        }
        CHECK.due("byteOf 20", x.byteOf(0, 20), -1);
        x.feed(0x05060708, 0, 0, 0, 0);
        x.end(2);
        CHECK.due("feed behind", x.feed(0x0a0b0c0d, 0, 0, 0, 0), 22);
        x.end(4);
        x.input();
        CHECK.due("ahead", x.byteOf(1, 1), 6);
        CHECK.due("behind", x.byteOf(1, 2), 10);
        CHECK.due("behind that", x.byteOf(1, 3), 11);
        x.feed(1, 2, 3, 4, 5);
        CHECK.due("end of all", x.end(0), 0);
        CHECK.due("nothing is left", x.about(1), 0);
        CHECK.due("end of nothing", x.end(0), 0);
        CHECK.due("end above nothing", x.end(1), -1);
    }

    private static void fullTape() {
        FallBench x = new FallBench();
        for (int n = 1; n <= 50; n++) {
            CHECK.due("feed", x.feed(0, 0, 0, 0, 0), 20 * n);
        }
        CHECK.due("feed of a full tape", x.feed(0, 0, 0, 0, 0), -1);
        CHECK.due("nothing comes", x.about(1), 1000);
        CHECK.due("end", x.end(981), 981);
        CHECK.due("feed above 1,000", x.feed(0, 0, 0, 0, 0), -1);
        CHECK.due("end", x.end(980), 980);
        CHECK.due("feed up to 1,000", x.feed(0, 0, 0, 0, 0), 1000);
    }

    private static void inputs() {
        FallBench x = new FallBench();
        CHECK.due("drop of none", x.drop(), false);
        CHECK.due("first", Check.input(x, 7), 0);
        CHECK.due("tape is empty", x.about(1), 0);
        CHECK.due("second", Check.input(x, 8, 9), 1);
        CHECK.due("drop", x.drop(), true);
        CHECK.due("dropped", x.byteOf(1, 0), -1);
        CHECK.due("run of dropped", x.run(0, 1), -1);
        CHECK.due("kept", x.byteOf(0, 0), 7);
        CHECK.due("again", Check.input(x, 10), 1);
        CHECK.due("new byte", x.byteOf(1, 0), 10);
        CHECK.due("old byte", x.byteOf(1, 1), -1);
        CHECK.due("byte below", x.byteOf(1, -1), -1);
        CHECK.due("input below", x.byteOf(-1, 0), -1);
        CHECK.due("input most", x.byteOf(Integer.MAX_VALUE, 0), -1);
        CHECK.due("byte least", x.byteOf(0, Integer.MIN_VALUE), -1);
        CHECK.due("drop", x.drop(), true);
        CHECK.due("drop", x.drop(), true);
        CHECK.due("drop of none", x.drop(), false);
        CHECK.due("none", x.about(0), 0);
    }

    private static void inputLimits() {
        FallBench x = new FallBench();
        CHECK.due("25 bytes", Check.input(x, new int[25]), -1);
        CHECK.due("tape stays", x.about(1), 25);
        CHECK.due("end", x.end(24), 24);
        CHECK.due("24 bytes", x.input(), 0);
        for (int i = 1; i < 30; i++) {
            CHECK.due("input", Check.input(x, i), i);
        }
        CHECK.due("31st", Check.input(x, 99, 98), -1);
        CHECK.due("tape stays", x.about(1), 2);
        CHECK.due("30 are kept", x.about(0), 30);
        CHECK.due("drop", x.drop(), true);
        CHECK.due("30th", x.input(), 29);
        CHECK.due("its byte", x.byteOf(29, 1), 98);
    }

    private static void about() {
        FallBench x = new FallBench();
        Check.program(x, 0, "stop");
        Check.program(x, 1, "stop\nstop");
        Check.program(x, 2, "stop\nstop\nstop");
        Check.input(x, 1);
        Check.input(x, 1);
        Check.lay(x, 1, 2, 3, 4, 5);
        CHECK.due("about(0)", x.about(0), 2);
        CHECK.due("about(1)", x.about(1), 5);
        CHECK.due("about(10)", x.about(10), 1);
        CHECK.due("about(11)", x.about(11), 2);
        CHECK.due("about(12)", x.about(12), 3);
        int[] others = {-1, 2, 9, 13, Integer.MIN_VALUE, Integer.MAX_VALUE};
        for (int what : others) {
            CHECK.due("about(" + what + ")", x.about(what), -1);
        }
    }
}
