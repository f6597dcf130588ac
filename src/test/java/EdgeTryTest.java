/** The boundary cases of promises 18 to 22, one function for each sentence that names one. */
public final class EdgeTryTest {
    private static final Check CHECK = new Check("EdgeTryTest");
    private static final int LEAST = Integer.MIN_VALUE;
    private static final int MOST = Integer.MAX_VALUE;
    private static final int[] NO_SHELVES = {-1, -2, 3, 4, 10, LEAST, MOST};
    /** Adds up the bytes to a 255, and loads from the PLACE of the sum. */
    private static final String SUM = "set r1 255\na:in r0\nsame r0 r1 b\nadd r2 r0\ngo a\nb:load r3 r2";
    /** Reads 24 bytes and adds them up; loads from there if it is 240, else it ends WELL. */
    private static final String SUM_240 = "set r1 24\nset r2 1\nset r5 240\na:in r0\nadd r4 r0\nadd r3 r2\nless r3 r1 a\n"
            + "same r4 r5 b\nstop\nb:load r0 r4";

    public static void main(String[] args) {
        smallToNothing();
        smallOfNothing();
        smallOfAll24();
        smallFirstGoes();
        smallNextAtItsPlace();
        smallBeginsAnew();
        smallCauseTheSame();
        smallEndsOtherwise();
        smallNoneSuch();
        lowLeastValue();
        lowFromTheFirst();
        lowCauseTheSame();
        smallByteNoneSuch();
        smallByteWithout();
        smallByteOfTheLatest();
        ruledToSomeValue();
        ruledOtherEndOrAct();
        ruledAlone();
        ruledFirstAndLast();
        ruledWellOrEndless();
        ruledNoneSuch();
        nearestFirstByte();
        nearestLeastValue();
        nearestWithout();
        nearestEndsWell();
        nearestNoneSuch();
        nearestByteNone();
        CHECK.finish();
    }

    private static int[] tens() {
        int[] bytes = new int[24];
        java.util.Arrays.fill(bytes, 10);
        return bytes;
    }

    private static void smallDue(FallBench x, int... want) {
        CHECK.due("small(0, 0)", x.small(0, 0), want.length);
        bytesDue(x, false, want);
    }

    private static void bytesDue(FallBench x, boolean low, int... want) {
        for (int k = 0; k < want.length; k++) {
            CHECK.due("smallByte(" + k + ", " + low + ")", x.smallByte(k, low), want[k]);
        }
        CHECK.due("smallByte(" + want.length + ", " + low + ")", x.smallByte(want.length, low), -1);
    }

    private static void nearestDue(FallBench x, int place, int value) {
        CHECK.due("nearest(0, 0)", x.nearest(0, 0), place);
        CHECK.due("nearestByte(0, 0)", x.nearestByte(0, 0), value);
    }

    private static void smallToNothing() {
        CHECK.edge(18, "SMALL: how many bytes (none, if all go out)");
        FallBench x = Check.bench("in r0\nload r1 r0", 40, 41, 42);
        smallDue(x);
        bytesDue(x, true);
        x = Check.bench("in r0\nload r1 r0", 40);
        smallDue(x);
        x = Check.bench("set r0 32\nstore r0 r1", new int[24]);
        smallDue(x);
        CHECK.due("the INPUT stays", x.byteOf(0, 23), 0);
    }

    private static void smallOfNothing() {
        CHECK.edge(18, "SMALL of an INPUT that is empty");
        FallBench x = Check.bench("in r0\nload r1 r0");
        smallDue(x);
        bytesDue(x, true);
    }

    private static void smallOfAll24() {
        CHECK.edge(18, "SMALL of an INPUT of 24 bytes");
        FallBench x = Check.bench(SUM_240, tens());
        smallDue(x, tens());
        bytesDue(x, true, tens());
        int[] mixed = new int[24];
        for (int k = 0; k < 24; k++) {
            mixed[k] = k == 23 ? 255 : k;
        }
        x = Check.bench(SUM, mixed);
        smallDue(x, 21, 22, 255);
        bytesDue(x, true, 10, 22, 255);
    }

    private static void smallFirstGoes() {
        CHECK.edge(18, "byte by byte from the first on, one that is left out with the CAUSE the same stays out");
        FallBench x = Check.bench(SUM, 40, 50, 255);
        smallDue(x, 50, 255);
        x = Check.bench(SUM, 50, 40, 255);
        smallDue(x, 40, 255);
        x = Check.bench(SUM, 20, 20, 5, 255);
        smallDue(x, 20, 20, 255);
        x = Check.bench(SUM, 16, 15, 255);
        CHECK.due("an end that is WELL", x.small(0, 0), -1);
        x = Check.bench(SUM, 16, 16, 255);
        smallDue(x, 16, 16, 255);
    }

    private static void smallNextAtItsPlace() {
        CHECK.edge(18, "(the next is then at its place)");
        // Behind 10 the 20 goes out: were it jumped over, 25 would go out in its stead.
        FallBench x = Check.bench(SUM, 10, 20, 25, 15, 255);
        smallDue(x, 25, 15, 255);
        x = Check.bench(SUM, 30, 30, 30, 30, 255);
        smallDue(x, 30, 30, 255);
    }

    private static void smallBeginsAnew() {
        CHECK.edge(18, "when the last was tried it begins anew, if any went out");
        // 5 6 7: 5 can't go while 6 is there, 6 can; then 5 can go in the next pass.
        String anew = "in r0\nin r1\nin r2\nset r3 5\nset r4 6\nset r5 7\nset r6 99\nsame r0 r4 z\nsame r1 r3 z\n"
                + "same r0 r5 b\nsame r1 r5 b\nsame r2 r5 b\nz:stop\nb:load r7 r6";
        smallDue(Check.bench(anew, 5, 6, 7), 7);
        // The bytes must fall from 24 on, so that the last alone can go: a pass for each.
        String falls = "set r1 24\nset r7 99\nset r6 1\na:in r0\nless r0 r2 b\nsame r0 r1 d\nstop\nd:sub r1 r6\ngo a\n"
                + "b:load r3 r7";
        int[] down = new int[24];
        for (int k = 0; k < 24; k++) {
            down[k] = 24 - k;
        }
        smallDue(Check.bench(falls, down));
    }

    private static void smallCauseTheSame() {
        CHECK.edge(18, "with the CAUSE the same: end, act and MAKER");
        // Without its byte it ends badly all the same, but of another MAKER, at another act, or otherwise.
        String maker = "in r0\nset r2 -1\nset r1 77\nsame r0 r2 a\nset r1 77\na:load r4 r1";
        smallDue(Check.bench(maker, 9), 9);
        String act = "in r0\nset r2 -1\nset r1 77\nsame r0 r2 a\nload r4 r1\na:load r4 r1";
        smallDue(Check.bench(act, 9), 9);
        String end = "in r0\nset r2 -1\nset r1 77\nsame r0 r2 a\nload r4 r1\na:store r1 r4";
        smallDue(Check.bench(end, 9), 9);
        String endless = "in r0\nset r2 -1\nset r1 77\na:same r0 r2 a\nload r4 r1";
        smallDue(Check.bench(endless, 9), 9);
        // Another WRONG value, or other BYTES, are no other CAUSE.
        smallDue(Check.bench("in r0\nload r4 r0", 99));
    }

    private static void smallEndsOtherwise() {
        CHECK.edge(18, "NONE, doing nothing, if its end is 0 or 4");
        FallBench x = Check.bench(SUM, 40, 5, 255);
        Check.program(x, 1, "stop");
        Check.program(x, 2, "a:go a");
        smallDue(x, 40, 255);
        CHECK.due("small of 0", x.small(1, 0), -1);
        bytesDue(x, false, 40, 255);
        bytesDue(x, true, 32, 255);
        CHECK.due("small of 4", x.small(2, 0), -1);
        bytesDue(x, false, 40, 255);
        bytesDue(x, true, 32, 255);
        FallBench jump = Check.bench("in r0\njump r0", 7);
        CHECK.due("small of 3", jump.small(0, 0), 0);
        FallBench write = Check.bench("in r0\nstore r0 r1", 77);
        CHECK.due("small of 2", write.small(0, 0), 0);
    }

    private static void smallNoneSuch() {
        CHECK.edge(18, "NONE, doing nothing, if there is none such");
        FallBench x = Check.bench(SUM, 40, 5, 255);
        smallDue(x, 40, 255);
        for (int shelf : NO_SHELVES) {
            CHECK.due("small(" + shelf + ", 0)", x.small(shelf, 0), -1);
        }
        for (int input : new int[] {1, 2, 29, 30, -1, LEAST, MOST}) {
            CHECK.due("small(0, " + input + ")", x.small(0, input), -1);
        }
        bytesDue(x, false, 40, 255);
        bytesDue(x, true, 32, 255);
        x.drop();
        CHECK.due("small of one that is kept no more", x.small(0, 0), -1);
        bytesDue(x, false, 40, 255);
        bytesDue(x, true, 32, 255);
    }

    private static void lowLeastValue() {
        CHECK.edge(19, "LOW: the least value with which the CAUSE is the same");
        // A byte must be there, whatever it is: 0. It must be 255: 255. It must be above 254, 0, 1: 255, 1, 2.
        String there = "in r0\nless r0 r1 e\nset r7 99\nload r2 r7\ne:";
        FallBench x = Check.bench(there, 200);
        smallDue(x, 200);
        bytesDue(x, true, 0);
        x = Check.bench(there, 0);
        smallDue(x, 0);
        bytesDue(x, true, 0);
        for (int above : new int[] {0, 1, 127, 253, 254}) {
            x = Check.bench("in r0\nset r1 " + above + "\nset r7 99\nless r1 r0 a\nstop\na:load r2 r7", 255);
            smallDue(x, 255);
            bytesDue(x, true, above + 1);
        }
        // The least, though values between it and the one that was there won't do.
        x = Check.bench("in r0\nset r7 99\nset r1 3\nset r2 100\nsame r0 r1 a\nless r2 r0 a\nstop\na:load r2 r7", 200);
        smallDue(x, 200);
        bytesDue(x, true, 3);
    }

    private static void lowFromTheFirst() {
        CHECK.edge(19, "LOW: then byte by byte from the first on");
        FallBench x = Check.bench(SUM, 20, 30, 255);
        smallDue(x, 20, 30, 255);
        bytesDue(x, true, 2, 30, 255);
        // The second can go down since the first did.
        x = Check.bench("in r0\nin r1\nless r0 r1 a\nstop\na:set r2 20\nadd r1 r2\nload r3 r1", 50, 70);
        smallDue(x, 50, 70);
        bytesDue(x, true, 0, 12);
        x = Check.bench("in r0\nin r1\nset r7 99\nset r6 1\nless r1 r0 e\nless r0 r5 e\nload r3 r7\ne:", 50, 70);
        smallDue(x, 50, 70);
        bytesDue(x, true, 0, 0);
        // SMALL itself is not made LOW.
        bytesDue(x, false, 50, 70);
    }

    private static void lowCauseTheSame() {
        CHECK.edge(19, "LOW: the CAUSE is the same (not the end alone)");
        String maker = "in r0\nset r2 -1\nset r1 77\nsame r0 r2 e\nset r2 0\nsame r0 r2 a\nset r1 77\na:load r4 r1\ne:";
        FallBench x = Check.bench(maker, 9);
        smallDue(x, 9);
        bytesDue(x, true, 1);
        String act = "in r0\nset r2 -1\nset r1 77\nsame r0 r2 e\nset r2 0\nsame r0 r2 a\nload r4 r1\na:load r4 r1\ne:";
        x = Check.bench(act, 9);
        smallDue(x, 9);
        bytesDue(x, true, 1);
        String end = "in r0\nset r2 -1\nset r1 77\nsame r0 r2 e\nset r2 0\nsame r0 r2 a\nload r4 r1\na:store r1 r4\ne:";
        x = Check.bench(end, 9);
        smallDue(x, 9);
        bytesDue(x, true, 1);
    }

    private static void smallByteNoneSuch() {
        CHECK.edge(19, "NONE if there is none such");
        FallBench x = Check.bench(SUM, 40, 5, 255);
        smallDue(x, 40, 255);
        for (int k : new int[] {-1, -2, 2, 3, 23, 24, LEAST, MOST}) {
            CHECK.due("smallByte(" + k + ", false)", x.smallByte(k, false), -1);
            CHECK.due("smallByte(" + k + ", true)", x.smallByte(k, true), -1);
        }
        x = Check.bench(SUM_240, tens());
        x.small(0, 0);
        for (int k : new int[] {-1, 24, 25, LEAST, MOST}) {
            CHECK.due("of 24 smallByte(" + k + ", false)", x.smallByte(k, false), -1);
            CHECK.due("of 24 smallByte(" + k + ", true)", x.smallByte(k, true), -1);
        }
        CHECK.due("of 24 smallByte(23, false)", x.smallByte(23, false), 10);
        CHECK.due("of 24 smallByte(23, true)", x.smallByte(23, true), 10);
    }

    private static void smallByteWithout() {
        CHECK.edge(19, "NONE without");
        FallBench x = new FallBench();
        bytesDue(x, false);
        bytesDue(x, true);
        x = Check.bench("stop", 1, 2);
        x.small(0, 0);
        x.small(3, 0);
        x.ruled(0, 0);
        x.nearest(0, 0);
        bytesDue(x, false);
        bytesDue(x, true);
    }

    private static void smallByteOfTheLatest() {
        CHECK.edge(19, "Byte k of the latest SMALL");
        FallBench x = Check.bench(SUM, 40, 5, 255);
        smallDue(x, 40, 255);
        x.ruled(0, 0);
        x.nearest(0, 0);
        x.nearestByte(0, 0);
        x.heaps(0);
        Check.input(x, 16, 17, 255);
        bytesDue(x, false, 40, 255);
        CHECK.due("small(0, 1)", x.small(0, 1), 3);
        bytesDue(x, false, 16, 17, 255);
        bytesDue(x, true, 15, 17, 255);
        Check.program(x, 0, "set r7 99\nload r1 r7");
        bytesDue(x, false, 16, 17, 255);
        smallDue(x);
        bytesDue(x, true);
    }

    private static void ruledToSomeValue() {
        CHECK.edge(20, "those bytes which, changed alone to some value, change the WRONG value");
        CHECK.due("any value", Check.bench("in r0\nload r1 r0", 40).ruled(0, 0), 1);
        for (int only : new int[] {0, 1, 128, 254, 255}) {
            String text = "in r0\nset r1 32\nset r2 " + only + "\nsame r0 r2 a\nset r1 33\na:load r2 r1";
            CHECK.due("the value " + only + " alone", Check.bench(text, 5).ruled(0, 0), 1);
        }
        String beyond = "in r0\nset r1 32\nset r2 255\nless r2 r0 a\nless r0 r3 a\nset r1 33\na:load r2 r1";
        CHECK.due("a value below 0 or above 255 alone", Check.bench(beyond, 5).ruled(0, 0), 0);
        CHECK.due("in BYTES, and yet not", Check.bench("in r0\nmul r0 r1\nset r2 50\nadd r0 r2\nload r1 r0", 5).ruled(0, 0), 0);
        CHECK.due("not read", Check.bench("in r0\nload r1 r0", 40, 41, 42).ruled(0, 0), 1);
    }

    private static void ruledOtherEndOrAct() {
        CHECK.edge(20, "its end and act being the same as they were");
        String act = "in r0\nset r1 7\nsame r0 r1 a\nset r1 50\nload r2 r1\na:set r1 60\nload r2 r1";
        CHECK.due("another act", Check.bench(act, 5).ruled(0, 0), 0);
        String end = "in r0\nset r1 7\nsame r0 r1 a\nset r1 50\nload r2 r1\na:set r1 60\nstore r1 r2";
        CHECK.due("another end", Check.bench(end, 5).ruled(0, 0), 0);
        CHECK.due("WELL else", Check.bench("in r0\nset r1 40\nsame r0 r1 a\nstop\na:load r2 r0", 40).ruled(0, 0), 0);
        CHECK.due("ENDLESS else", Check.bench("in r0\nset r1 40\na:same r0 r1 b\ngo a\nb:load r2 r0", 40).ruled(0, 0), 0);
        // Another MAKER is neither.
        String maker = "in r0\nset r1 50\nsame r0 r2 a\nset r1 60\na:load r2 r1";
        CHECK.due("another MAKER", Check.bench(maker, 5).ruled(0, 0), 1);
        String same = "in r0\nset r1 50\nsame r0 r2 a\nset r1 50\na:load r2 r1";
        CHECK.due("another MAKER of the same value", Check.bench(same, 5).ruled(0, 0), 0);
    }

    private static void ruledAlone() {
        CHECK.edge(20, "changed alone");
        // Both would have to change at once.
        String both = "in r0\nin r1\nset r2 50\nset r3 7\nsame r0 r3 a\ngo b\na:same r1 r3 c\nb:set r2 60\nc:load r4 r2";
        CHECK.due("both at once", Check.bench(both, 5, 5).ruled(0, 0), 0);
        CHECK.due("the second, the first being so", Check.bench(both, 7, 5).ruled(0, 0), 2);
        CHECK.due("the first, the second being so", Check.bench(both, 5, 7).ruled(0, 0), 1);
        CHECK.due("each of both", Check.bench(both, 7, 7).ruled(0, 0), 3);
        FallBench x = Check.bench("in r0\nin r1\nin r2\nadd r0 r2\nload r3 r0", 40, 9, 1);
        CHECK.due("ruled", x.ruled(0, 0), 5);
        CHECK.bytesDue(x, 0, 40, 9, 1);
    }

    private static void ruledFirstAndLast() {
        CHECK.edge(20, "RULED: bits of bytes, 24 at most");
        CHECK.due("of an empty INPUT", Check.bench("in r0\nload r1 r0").ruled(0, 0), 0);
        int[] bytes = new int[24];
        bytes[23] = 99;
        String last = "in r0\n".repeat(24) + "load r1 r0";
        CHECK.due("the last of 24", Check.bench(last, bytes).ruled(0, 0), 1 << 23);
        String all = "set r1 24\nset r2 1\na:in r0\nadd r4 r0\nadd r3 r2\nless r3 r1 a\nload r5 r4";
        CHECK.due("all 24", Check.bench(all, bytes).ruled(0, 0), (1 << 24) - 1);
    }

    private static void ruledWellOrEndless() {
        CHECK.edge(20, "0 if its end is 0 or 4");
        CHECK.due("WELL", Check.bench("in r0\nload r1 r0", 31).ruled(0, 0), 0);
        CHECK.due("WELL of nothing", Check.bench("", 31).ruled(0, 0), 0);
        CHECK.due("ENDLESS", Check.bench("in r0\nset r1 5\na:same r0 r1 a\nload r1 r0", 5).ruled(0, 0), 0);
        CHECK.due("READ", Check.bench("in r0\nload r1 r0", 32).ruled(0, 0), 1);
        CHECK.due("WRITE", Check.bench("in r0\nstore r0 r1", 32).ruled(0, 0), 1);
        CHECK.due("JUMP", Check.bench("in r0\njump r0", 32).ruled(0, 0), 1);
    }

    private static void ruledNoneSuch() {
        CHECK.edge(20, "NONE if there is none such");
        FallBench x = Check.bench("in r0\nload r1 r0", 40);
        for (int shelf : NO_SHELVES) {
            CHECK.due("ruled(" + shelf + ", 0)", x.ruled(shelf, 0), -1);
        }
        for (int input : new int[] {1, 2, 29, 30, -1, LEAST, MOST}) {
            CHECK.due("ruled(0, " + input + ")", x.ruled(0, input), -1);
        }
        x.drop();
        CHECK.due("of one that is kept no more", x.ruled(0, 0), -1);
    }

    private static void nearestFirstByte() {
        CHECK.edge(21, "NEAREST: the first byte by which, changed alone, it ends WELL: the byte's number");
        nearestDue(Check.bench("in r0\nload r1 r0", 40, 41), 0, 0);
        nearestDue(Check.bench("in r0\nin r0\nload r1 r0", 40, 41), 1, 0);
        // The first byte comes ahead of the least value.
        String text = "in r0\nin r1\nset r2 200\nset r7 99\nless r2 r0 e\nset r2 3\nless r1 r2 e\nload r3 r7\ne:";
        nearestDue(Check.bench(text, 7, 7), 0, 201);
        String last = "in r0\n".repeat(24) + "load r1 r0";
        int[] bytes = new int[24];
        bytes[23] = 99;
        FallBench x = Check.bench(last, bytes);
        nearestDue(x, 23, 0);
        CHECK.bytesDue(x, 0, bytes);
        // An ENDLESS one has a NEAREST too.
        nearestDue(Check.bench("in r0\nset r1 9\nsame r0 r1 e\na:go a\ne:", 5), 0, 9);
        nearestDue(Check.bench("in r0\nstore r0 r1", 40), 0, 0);
        nearestDue(Check.bench("in r0\njump r0\nstop", 40), 0, 2);
    }

    private static void nearestLeastValue() {
        CHECK.edge(22, "of it the least value: Its value");
        for (int only : new int[] {0, 1, 128, 254, 255}) {
            String text = "in r0\nset r2 " + only + "\nset r7 99\nsame r0 r2 e\nload r1 r7\ne:";
            nearestDue(Check.bench(text, 77), 0, only);
        }
        String many = "in r0\nset r2 100\nset r7 99\nset r3 4\nsame r0 r3 e\nless r2 r0 e\nload r1 r7\ne:";
        nearestDue(Check.bench(many, 77), 0, 4);
    }

    private static void nearestWithout() {
        CHECK.edge(21, "NONE without");
        nearestDue(Check.bench("set r7 99\nload r0 r7", 1, 2), -1, -1);
        nearestDue(Check.bench("in r0\nload r1 r0"), -1, -1);
        nearestDue(Check.bench("a:go a", new int[24]), -1, -1);
        String beyond = "in r0\nset r1 255\nset r7 99\nless r1 r0 e\nless r0 r2 e\nload r3 r7\ne:";
        nearestDue(Check.bench(beyond, 5), -1, -1);
        // Both bytes would have to change at once.
        nearestDue(Check.bench("in r0\nin r1\nload r2 r0\nload r2 r1", 40, 40), -1, -1);
        nearestDue(Check.bench("in r0\nin r1\nload r2 r0\nload r2 r1", 31, 40), 1, 0);
        nearestDue(Check.bench("in r0\nin r1\nload r2 r0\nload r2 r1", 40, 31), 0, 0);
        noneBehindAnother("set r7 99\nload r0 r7");
    }

    /** An earlier answer of the same object is no answer for one that has none. */
    private static void noneBehindAnother(String text) {
        FallBench x = Check.bench("in r0\nin r0\nset r1 9\nsame r0 r1 e\na:go a\ne:", 5, 5);
        Check.program(x, 1, text);
        nearestDue(x, 1, 9);
        CHECK.due("nearest behind another", x.nearest(1, 0), -1);
        nearestDue(x, 1, 9);
        CHECK.due("nearestByte behind another", x.nearestByte(1, 0), -1);
        CHECK.due("nearest behind that", x.nearest(1, 0), -1);
    }

    private static void nearestEndsWell() {
        CHECK.edge(21, "NONE if it ends WELL");
        nearestDue(Check.bench("in r0\nload r1 r0", 31), -1, -1);
        nearestDue(Check.bench("", 1, 2), -1, -1);
        nearestDue(Check.bench(""), -1, -1);
        noneBehindAnother("stop");
    }

    private static void nearestNoneSuch() {
        CHECK.edge(21, "NONE if there is none such");
        FallBench x = Check.bench("in r0\nload r1 r0", 40);
        nearestDue(x, 0, 0);
        for (int shelf : NO_SHELVES) {
            CHECK.due("nearest(" + shelf + ", 0)", x.nearest(shelf, 0), -1);
        }
        for (int input : new int[] {1, 2, 29, 30, -1, LEAST, MOST}) {
            CHECK.due("nearest(0, " + input + ")", x.nearest(0, input), -1);
        }
        x.drop();
        CHECK.due("of one that is kept no more", x.nearest(0, 0), -1);
    }

    private static void nearestByteNone() {
        CHECK.edge(22, "NONE likewise");
        FallBench x = Check.bench("in r0\nload r1 r0", 40);
        Check.program(x, 1, "set r7 99\nload r0 r7");
        CHECK.due("nearestByte(0, 0)", x.nearestByte(0, 0), 0);
        CHECK.due("without", x.nearestByte(1, 0), -1);
        CHECK.due("if it ends WELL", x.nearestByte(2, 0), -1);
        for (int shelf : NO_SHELVES) {
            CHECK.due("nearestByte(" + shelf + ", 0)", x.nearestByte(shelf, 0), -1);
        }
        for (int input : new int[] {1, 2, 29, 30, -1, LEAST, MOST}) {
            CHECK.due("nearestByte(0, " + input + ")", x.nearestByte(0, input), -1);
        }
        x.drop();
        CHECK.due("of one that is kept no more", x.nearestByte(0, 0), -1);
    }
}
