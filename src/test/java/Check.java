/** Counts answers that are not as due, and feeds texts and bytes to a bench. */
final class Check {
    private final String name;
    private int checked = 0;
    private int wrong = 0;
    private int edges = 0;
    private int checkedAtEdge = 0;
    private String edge = "";

    Check(String name) {
        this.name = name;
    }

    void due(String call, long got, long want) {
        checked++;
        if (got != want) {
            wrong++;
            System.out.println(name + ": " + edge + call + " answered " + got + ", due is " + want);
        }
    }

    void due(String call, boolean got, boolean want) {
        due(call, got ? 1 : 0, want ? 1 : 0);
    }

    /** From here on the answers are held against this sentence of the document, which names a boundary case. */
    void edge(int promise, String sentence) {
        closeEdge();
        edges++;
        edge = "promise " + promise + " '" + sentence + "': ";
        checkedAtEdge = checked;
    }

    /** A sentence for which nothing was asked is not tested, so that counts as wrong. */
    private void closeEdge() {
        if (edges > 0 && checked == checkedAtEdge) {
            wrong++;
            System.out.println(name + ": " + edge + "nothing was asked");
        }
    }

    void finish() {
        closeEdge();
        String told = edges > 0 ? edges + " boundary sentences, " : "";
        System.out.println(name + ": " + told + checked + " answers, " + wrong + " not as due");
        if (wrong != 0) {
            System.exit(1);
        }
    }

    /** The TAPE must be empty; it has just these bytes then. */
    static void lay(FallBench x, int... bytes) {
        for (int i = 0; i < bytes.length; i += 20) {
            int[] n = new int[5];
            for (int k = 0; k < 20; k++) {
                int b = i + k < bytes.length ? bytes[i + k] : 0;
                n[k / 4] = n[k / 4] << 8 | b;
            }
            x.feed(n[0], n[1], n[2], n[3], n[4]);
        }
        x.end(bytes.length);
    }

    static void lay(FallBench x, String text) {
        lay(x, text.chars().toArray());
    }

    static int program(FallBench x, int shelf, String text) {
        lay(x, text);
        return x.program(shelf);
    }

    /** A new bench with the text on SHELF 0 and the bytes as INPUT 0. */
    static FallBench bench(String text, int... bytes) {
        FallBench x = new FallBench();
        if (program(x, 0, text) < 0) {
            throw new IllegalArgumentException("the test's own program has a FAULT: " + text);
        }
        input(x, bytes);
        return x;
    }

    static int input(FallBench x, int... bytes) {
        lay(x, bytes);
        return x.input();
    }

    /** The bytes of an INPUT, and that there are no more. */
    void bytesDue(FallBench x, int input, int... want) {
        for (int k = 0; k < want.length; k++) {
            due("byteOf(" + input + ", " + k + ")", x.byteOf(input, k), want[k]);
        }
        due("byteOf(" + input + ", " + want.length + ")", x.byteOf(input, want.length), FallBench.NONE);
    }

    void faultDue(String text, int fault, int place) {
        FallBench x = new FallBench();
        String call = "program of '" + text.replace("\n", "\\n") + "'";
        due(call, program(x, 1, text), FallBench.NONE);
        due(call + ", fault(0)", x.fault(0), fault);
        due(call + ", fault(1)", x.fault(1), place);
    }

    void actsDue(String text, int acts) {
        FallBench x = new FallBench();
        String call = "program of '" + text.replace("\n", "\\n") + "'";
        due(call, program(x, 1, text), acts);
        due(call + ", fault(0)", x.fault(0), 0);
        due(call + ", fault(1)", x.fault(1), FallBench.NONE);
        due(call + ", about(11)", x.about(11), acts);
    }
}
