/** Promises 4, 5, 6: programs, their FAULTS and their acts. */
public final class ProgramTest {
    private static final Check CHECK = new Check("ProgramTest");

    public static void main(String[] args) {
        shelves();
        goodTexts();
        tokenFaults();
        orderFaults();
        labelFaults();
        firstFaults();
        limits();
        acts();
        CHECK.finish();
    }

    private static void shelves() {
        FallBench x = new FallBench();
        Check.lay(x, "stop".chars().toArray());
        int[] none = {-1, 3, Integer.MIN_VALUE, Integer.MAX_VALUE};
        for (int shelf : none) {
            CHECK.due("program(" + shelf + ")", x.program(shelf), -2);
        }
        CHECK.due("tape stays", x.about(1), 4);
        CHECK.due("program(2)", x.program(2), 1);
        CHECK.due("tape is empty", x.about(1), 0);
        CHECK.due("a fault", Check.program(x, 2, "stop\nstop\ngo"), -1);
        CHECK.due("the program stays", x.about(12), 1);
        CHECK.due("its act stays", x.act(2, 0, 0), 13);
        CHECK.due("tape is empty", x.about(1), 0);
        CHECK.due("fault(0)", x.fault(0), 2);
        CHECK.due("fault(1)", x.fault(1), 12);
        CHECK.due("no shelf", x.program(3), -2);
        CHECK.due("fault(0) of the one ahead", x.fault(0), 2);
        CHECK.due("fault(1) of the one ahead", x.fault(1), 12);
        int[] others = {-1, 2, Integer.MIN_VALUE, Integer.MAX_VALUE};
        for (int what : others) {
            CHECK.due("fault(" + what + ")", x.fault(what), -1);
        }
        CHECK.due("empty program", x.program(2), 0);
        CHECK.due("no fault", x.fault(0), 0);
        CHECK.due("no place", x.fault(1), -1);
        CHECK.due("no acts", x.about(12), 0);
    }

    private static void goodTexts() {
        CHECK.actsDue("", 0);
        CHECK.actsDue("   ", 0);
        CHECK.actsDue("\n\n \n", 0);
        CHECK.actsDue("a:b : c:", 0);
        CHECK.actsDue("a:\nb:stop", 1);
        CHECK.actsDue("a:b:go a\n", 1);
        CHECK.actsDue("set r1-5", 1);
        CHECK.actsDue("set r1 -999999\nset r7 000000", 2);
        CHECK.actsDue("r:go r", 1);
        CHECK.actsDue("rr:rs:go rr", 1);
        CHECK.actsDue("abcdefgh: go abcdefgh", 1);
        CHECK.actsDue("go z\nz:", 1);
        CHECK.actsDue("   in   r0   \n  stop  ", 2);
        CHECK.actsDue("instop: go instop", 1);
    }

    private static void tokenFaults() {
        CHECK.faultDue("\t", 1, 0);
        CHECK.faultDue("stop\r\n", 1, 4);
        CHECK.faultDue("Stop", 1, 0);
        CHECK.faultDue("stop \u0000", 1, 5);
        CHECK.faultDue("stop \u00e1", 1, 5);
        CHECK.faultDue("abcdefghi:", 1, 0);
        CHECK.faultDue("go abcdefghi", 1, 3);
        CHECK.faultDue("set r1 1234567", 1, 7);
        CHECK.faultDue("set r1 -1234567", 1, 7);
        CHECK.faultDue("set r1 -", 1, 7);
        CHECK.faultDue("set r1 - 5", 1, 7);
        CHECK.faultDue("set r1 --5", 1, 7);
        CHECK.faultDue("set r1 5a", 1, 7);
        CHECK.faultDue("set r1 -5a", 1, 7);
        CHECK.faultDue("set r1 5.", 1, 8);
        CHECK.faultDue("a1b:", 1, 1);
        CHECK.faultDue("`", 1, 0);
        CHECK.faultDue("{", 1, 0);
        CHECK.faultDue("in r1;", 1, 5);
    }

    private static void orderFaults() {
        CHECK.faultDue("in", 2, 2);
        CHECK.faultDue("in  ", 2, 4);
        CHECK.faultDue("in\nr1", 2, 2);
        CHECK.faultDue("in r8", 2, 3);
        CHECK.faultDue("in r12", 2, 3);
        CHECK.faultDue("in r1a", 2, 3);
        CHECK.faultDue("in rr1", 2, 3);
        CHECK.faultDue("in r1r2", 2, 3);
        CHECK.faultDue("in r 1", 2, 3);
        CHECK.faultDue("inr1", 2, 3);
        CHECK.faultDue("in r1 r2", 2, 6);
        CHECK.faultDue("in r1 in r2", 2, 6);
        CHECK.faultDue("set r1 r2", 2, 7);
        CHECK.faultDue("set r1 5-3", 2, 8);
        CHECK.faultDue("set r1 5 a", 2, 9);
        CHECK.faultDue("copy r1 5", 2, 8);
        CHECK.faultDue("less r1 r2", 2, 10);
        CHECK.faultDue("less r1 r2 stop", 2, 11);
        CHECK.faultDue("same r1 r2 r3", 2, 11);
        CHECK.faultDue("go 5", 2, 3);
        CHECK.faultDue("go in", 2, 3);
        CHECK.faultDue("jump a\na:", 2, 5);
        CHECK.faultDue("stop stop", 2, 5);
        CHECK.faultDue("stop:", 2, 4);
        CHECK.faultDue("stop a:", 2, 5);
        CHECK.faultDue(":", 2, 0);
        CHECK.faultDue("a", 2, 1);
        CHECK.faultDue("a\n:", 2, 1);
        CHECK.faultDue("a::", 2, 2);
        CHECK.faultDue("a stop", 2, 2);
        CHECK.faultDue("a1:", 2, 1);
        CHECK.faultDue("r1:", 2, 0);
        CHECK.faultDue("5", 2, 0);
        CHECK.faultDue("a: 5", 2, 3);
    }

    private static void labelFaults() {
        CHECK.faultDue("a:\na:", 3, 3);
        CHECK.faultDue("a: a: stop", 3, 3);
        CHECK.faultDue("a:stop\nb:a:stop", 3, 9);
        CHECK.faultDue("go a", 4, 3);
        CHECK.faultDue("a: less r1 r2 b", 4, 14);
        CHECK.faultDue("same r1 r2 c\ngo d", 4, 11);
        CHECK.faultDue("a: go a\ngo aa", 4, 11);
    }

    private static void firstFaults() {
        CHECK.faultDue("go x\na:\na:", 3, 8);
        CHECK.faultDue("go x\nin", 2, 7);
        CHECK.faultDue("go x\n;", 1, 5);
        CHECK.faultDue("in 5 ;", 2, 3);
        CHECK.faultDue("a:a:;", 3, 2);
        CHECK.faultDue("; in", 1, 0);
        CHECK.faultDue("in ;", 1, 3);
        CHECK.faultDue("a:\na;", 3, 3);
        CHECK.faultDue("a:\na stop", 3, 3);
    }

    private static void limits() {
        StringBuilder acts = new StringBuilder();
        for (int i = 0; i < 80; i++) {
            acts.append("stop\n");
        }
        CHECK.actsDue(acts + "end:", 80);
        CHECK.faultDue(acts + "stop", 2, 400);
        CHECK.faultDue(acts + "a: in 5", 2, 403);
        CHECK.faultDue(acts + "x", 2, 401);
        StringBuilder labels = new StringBuilder();
        for (int i = 0; i < 20; i++) {
            labels.append((char) ('a' + i)).append(":");
        }
        CHECK.actsDue(labels + "go t", 1);
        CHECK.faultDue(labels + " z:", 2, 41);
        CHECK.faultDue(labels + "\na:", 2, 41);
        CHECK.faultDue(labels + "go z", 4, 43);
        CHECK.actsDue("\n".repeat(1000), 0);
        CHECK.actsDue(" ".repeat(996) + "stop", 1);
        CHECK.actsDue("stop" + " ".repeat(996), 1);
        CHECK.faultDue("in" + " ".repeat(998), 2, 1000);
        CHECK.faultDue("a".repeat(1000), 1, 0);
        CHECK.faultDue("1".repeat(1000), 1, 0);
        CHECK.faultDue(":".repeat(1000), 2, 0);
    }

    private static void acts() {
        FallBench x = new FallBench();
        String text = "b:in r1\nset r2 -34\ncopy r3 r4\nadd r5 r6\nsub r7 r0\nmul r1 r2\nload r3 r2\nstore r4 r7\n"
                + "less r0 r1 b\nsame r2 r3 e\ngo m\nm:jump r6\nout r5\nstop\ne:";
        CHECK.due("all kinds", Check.program(x, 1, text), 14);
        int[] firsts = {1, 2, 3, 5, 7, 1, 3, 4, 0, 2, -1, 6, 5, -1};
        int[] seconds = {-1, -1, 4, 6, 0, 2, 2, 7, 1, 3, -1, -1, -1, -1};
        int[] numbers = {0, -34, 0, 0, 0, 0, 0, 0, 0, 14, 11, 0, 0, 0};
        for (int k = 0; k < 14; k++) {
            CHECK.due("kind of " + k, x.act(1, k, 0), k);
            CHECK.due("first of " + k, x.act(1, k, 1), firsts[k]);
            CHECK.due("second of " + k, x.act(1, k, 2), seconds[k]);
            CHECK.due("number of " + k, x.act(1, k, 3), numbers[k]);
            CHECK.due("what 4 of " + k, x.act(1, k, 4), -1);
            CHECK.due("what -1 of " + k, x.act(1, k, -1), -1);
        }
        int[][] none = {{1, 14}, {1, -1}, {0, 0}, {-1, 0}, {3, 0}, {1, Integer.MAX_VALUE}, {Integer.MIN_VALUE, 0}};
        for (int[] n : none) {
            for (int what = -1; what <= 4; what++) {
                CHECK.due("no act, what " + what, x.act(n[0], n[1], what), what == 3 ? -1000000 : -1);
            }
        }
        CHECK.due("numbers", Check.program(x, 0, "set r0 999999\nset r0 -999999\nset r0 -0\nset r0 007"), 4);
        int[] want = {999999, -999999, 0, 7};
        for (int k = 0; k < 4; k++) {
            CHECK.due("N of " + k, x.act(0, k, 3), want[k]);
        }
    }
}
