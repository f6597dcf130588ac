/** Counts answers that are not as due, and feeds texts and bytes to a bench. */
final class Check {
    private final String name;
    private int checked = 0;
    private int wrong = 0;

    Check(String name) {
        this.name = name;
    }

    void due(String call, long got, long want) {
        checked++;
        if (got != want) {
            wrong++;
            System.out.println(name + ": " + call + " answered " + got + ", due is " + want);
        }
    }

    void due(String call, boolean got, boolean want) {
        due(call, got ? 1 : 0, want ? 1 : 0);
    }

    void finish() {
        System.out.println(name + ": " + checked + " answers, " + wrong + " not as due");
        if (wrong != 0) {
            System.exit(1);
        }
    }

    /** The TAPE must be empty; it has just these bytes then. */
    static void lay(FallBench x, int... bytes) {
        for (int i = 0; i < bytes.length; i += 20) {
            int[] n = new int[5];
            for (int k = 0; k < 20; k++) {
                int b = i + k < bytes.length ? bytes[i + k] : 0;
                n[k / 4] = n[k / 4] << 8 | b;
            }
            x.feed(n[0], n[1], n[2], n[3], n[4]);
        }
        x.end(bytes.length);
    }

    static int program(FallBench x, int shelf, String text) {
        lay(x, text.chars().toArray());
        return x.program(shelf);
    }

    static int input(FallBench x, int... bytes) {
        lay(x, bytes);
        return x.input();
    }

    void faultDue(String text, int fault, int place) {
        FallBench x = new FallBench();
        String call = "program of '" + text.replace("\n", "\\n") + "'";
        due(call, program(x, 1, text), FallBench.NONE);
        due(call + ", fault(0)", x.fault(0), fault);
        due(call + ", fault(1)", x.fault(1), place);
    }

    void actsDue(String text, int acts) {
        FallBench x = new FallBench();
        String call = "program of '" + text.replace("\n", "\\n") + "'";
        due(call, program(x, 1, text), acts);
        due(call + ", fault(0)", x.fault(0), 0);
        due(call + ", fault(1)", x.fault(1), FallBench.NONE);
        due(call + ", about(11)", x.about(11), acts);
    }
}
