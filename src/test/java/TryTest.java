/** Promises 18 to 22: SMALL, LOW, RULED, NEAREST. */
public final class TryTest {
    private static final Check CHECK = new Check("TryTest");

    public static void main(String[] args) {
        small();
        smallAnew();
        smallStays();
        low();
        ruled();
        nearest();
        wrongAsks();
        CHECK.finish();
    }

    private static FallBench with(String text, int... bytes) {
        FallBench x = new FallBench();
        Check.program(x, 0, text);
        CHECK.due("input", Check.input(x, bytes), 0);
        return x;
    }

    private static void smallDue(FallBench x, int... want) {
        CHECK.due("small", x.small(0, 0), want.length);
        bytesDue(x, false, want);
    }

    private static void bytesDue(FallBench x, boolean low, int... want) {
        for (int k = 0; k < want.length; k++) {
            CHECK.due("smallByte(" + k + ", " + low + ")", x.smallByte(k, low), want[k]);
        }
        CHECK.due("smallByte behind", x.smallByte(want.length, low), -1);
        CHECK.due("smallByte ahead", x.smallByte(-1, low), -1);
    }

    private static void small() {
        // Adds up all bytes to a 255, and loads there.
        String sum = "set r1 255\na:in r0\nsame r0 r1 b\nadd r2 r0\ngo a\nb:load r3 r2";
        FallBench x = with(sum, 20, 5, 20, 3, 255, 9, 9);
        smallDue(x, 20, 20, 255);
        bytesDue(x, true, 12, 20, 255);
        x = with(sum, 40, 3, 255);
        smallDue(x, 40, 255);
        bytesDue(x, true, 32, 255);
        // The first that can go goes, though a later one would do as well.
        x = with(sum, 40, 50, 255);
        smallDue(x, 50, 255);
        x = with("in r0\nload r1 r0", 40);
        smallDue(x);
        bytesDue(x, true);
    }

    private static void smallAnew() {
        // 5 6 7: 5 can't go while 6 is there, 6 can; then 5 can go in the next pass.
        String anew = "in r0\nin r1\nin r2\nset r3 5\nset r4 6\nset r5 7\nset r6 99\nsame r0 r4 z\nsame r1 r3 z\n"
                + "same r0 r5 b\nsame r1 r5 b\nsame r2 r5 b\nz:stop\nb:load r7 r6";
        FallBench x = with(anew, 5, 6, 7);
        smallDue(x, 7);
        bytesDue(x, true, 7);
    }

    private static void smallStays() {
        FallBench x = with("in r0\nin r1\nload r2 r1", 3, 60);
        CHECK.due("small", x.small(0, 0), 0);
        Check.program(x, 0, "in r0\nset r1 90\nless r0 r1 w\nload r2 r0\nw:");
        Check.input(x, 1, 200);
        Check.input(x, 201, 1);
        CHECK.due("small", x.small(0, 2), 1);
        bytesDue(x, false, 201);
        bytesDue(x, true, 90);
        CHECK.due("small of one that ends WELL", x.small(0, 1), -1);
        CHECK.due("no shelf", x.small(3, 2), -1);
        CHECK.due("no input", x.small(0, 3), -1);
        bytesDue(x, false, 201);
        Check.program(x, 1, "a:go a");
        CHECK.due("small of an endless one", x.small(1, 2), -1);
        Check.program(x, 0, "");
        x.drop();
        bytesDue(x, false, 201);
        bytesDue(x, true, 90);
        bytesDueOfNew();
    }

    private static void bytesDueOfNew() {
        FallBench x = new FallBench();
        bytesDue(x, false);
        bytesDue(x, true);
    }

    private static void low() {
        // The second must be above the first, and then it is loaded from the sum with 20.
        String text = "in r0\nin r1\nless r0 r1 a\nstop\na:set r2 20\nadd r1 r2\nload r3 r1";
        FallBench x = with(text, 50, 70);
        smallDue(x, 50, 70);
        bytesDue(x, true, 0, 12);
        // The MAKER must stay: a byte 0 would choose another one.
        text = "in r0\nin r3\nset r2 0\nset r1 77\nsame r0 r2 a\nset r1 77\na:load r4 r1";
        x = with(text, 9, 9);
        smallDue(x);
        Check.program(x, 0, "in r0\nset r2 -1\nset r1 77\nsame r0 r2 b\nset r2 0\nsame r0 r2 a\nset r1 77\na:load r4 r1\n"
                + "b:stop");
        smallDue(x, 9);
        bytesDue(x, true, 1);
    }

    private static void ruled() {
        FallBench x = with("in r0\nin r1\nin r2\nadd r0 r2\nload r3 r0", 40, 9, 1, 7);
        CHECK.due("of those added", x.ruled(0, 0), 5);
        x = with("in r0\nin r1\nset r2 0\nmul r0 r2\nadd r0 r1\nload r3 r0", 40, 40);
        CHECK.due("tried, not told by BYTES", x.ruled(0, 0), 2);
        x.run(0, 0);
        CHECK.due("BYTES", x.ran(4), 3);
        x = with("in r0\nset r1 32\nsame r0 r1 a\nset r1 33\na:load r2 r1", 5);
        CHECK.due("by the way alone", x.ruled(0, 0), 1);
        x = with("in r0\nset r1 32\nset r2 0\nsame r0 r2 a\nset r1 33\na:load r2 r1", 5);
        CHECK.due("by the value 0 alone", x.ruled(0, 0), 1);
        x = with("in r0\nset r1 32\nset r2 255\nsame r0 r2 a\nset r1 33\na:load r2 r1", 5);
        CHECK.due("by the value 255 alone", x.ruled(0, 0), 1);
        x = with("in r0\nset r1 32\nset r2 255\nless r2 r0 a\nset r1 33\na:load r2 r1", 5);
        CHECK.due("no byte is above 255", x.ruled(0, 0), 0);
        nearestDue(x, -1, -1);
        x = with("in r0\nset r1 32\nset r2 255\nless r2 r0 a\nload r2 r1\na:", 5);
        nearestDue(x, -1, -1);
        x = with("in r0\nset r1 7\nsame r0 r1 a\nset r1 50\nload r2 r1\na:set r1 60\nload r2 r1", 5);
        CHECK.due("another act", x.ruled(0, 0), 0);
        x = with("in r0\nload r1 r0", 3);
        CHECK.due("WELL", x.ruled(0, 0), 0);
        x = with("in r0\na:go a", 3);
        CHECK.due("ENDLESS", x.ruled(0, 0), 0);
        x = with("in r0\njump r0", 9);
        CHECK.due("jump", x.ruled(0, 0), 1);
        x = with("in r0\nstore r0 r1", 99);
        CHECK.due("store", x.ruled(0, 0), 1);
        int[] many = new int[24];
        many[23] = 99;
        x = with("set r1 24\nset r2 1\na:in r0\nadd r4 r0\nadd r3 r2\nless r3 r1 a\nload r5 r4", many);
        CHECK.due("all 24", x.ruled(0, 0), (1 << 24) - 1);
    }

    private static void nearest() {
        FallBench x = with("in r0\nin r1\nset r2 100\nload r3 r2", 1, 2);
        nearestDue(x, -1, -1);
        x = with("in r0\nin r1\nset r2 9\nless r1 r2 b\nload r3 r0\nb:set r4 5\nsame r0 r4 e\nload r5 r1\nset r4 3\n"
                + "less r0 r4 e\nload r5 r2\nset r6 200\nload r3 r6\ne:", 77, 40);
        nearestDue(x, 0, 5);
        x = with("in r0\nin r1\nset r2 250\nless r2 r1 e\nload r3 r2\ne:", 77, 40);
        nearestDue(x, 1, 251);
        x = with("in r0\nin r1\nload r2 r1", 0, 255);
        nearestDue(x, 1, 0);
        x = with("in r0\nset r1 255\nsame r0 r1 e\na:go a\ne:", 0);
        nearestDue(x, 0, 255);
        x = with("in r0\nload r2 r0", 7);
        nearestDue(x, -1, -1);
        x = with("in r0\nload r2 r0");
        nearestDue(x, -1, -1);
    }

    private static void nearestDue(FallBench x, int place, int value) {
        CHECK.due("nearest", x.nearest(0, 0), place);
        CHECK.due("nearestByte", x.nearestByte(0, 0), value);
    }

    private static void wrongAsks() {
        FallBench x = with("in r0\nload r1 r0", 99);
        int[] none = {-1, 3, Integer.MIN_VALUE, Integer.MAX_VALUE};
        for (int n : none) {
            CHECK.due("small shelf", x.small(n, 0), -1);
            CHECK.due("small input", x.small(0, n), -1);
            CHECK.due("ruled shelf", x.ruled(n, 0), -1);
            CHECK.due("ruled input", x.ruled(0, n), -1);
            CHECK.due("nearest shelf", x.nearest(n, 0), -1);
            CHECK.due("nearest input", x.nearest(0, n), -1);
            CHECK.due("nearestByte shelf", x.nearestByte(n, 0), -1);
            CHECK.due("nearestByte input", x.nearestByte(0, n), -1);
            CHECK.due("smallByte", x.smallByte(n, true), -1);
        }
        CHECK.due("input 1", x.ruled(0, 1), -1);
        CHECK.due("input 1", x.nearest(0, 1), -1);
    }
}
