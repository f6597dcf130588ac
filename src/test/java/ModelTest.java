import java.util.ArrayList;
import java.util.List;
import java.util.Random;

/** Holds the class against the model on many programs and inputs; the seeds are fixed, so each run is the same. */
public final class ModelTest {
    private static final Check CHECK = new Check("ModelTest");
    private static final int BENCHES = Integer.getInteger("benches", 150);
    /** What an object answers behind these is free. */
    private static final int CALLS_MOST = 512;

    private final Random random;
    private final MadeUp madeUp;
    private FallBench x = new FallBench();
    private int callsLeft = CALLS_MOST;
    private final String[] texts = {"", "", ""};
    private final List<List<Model.Act>> shelves = new ArrayList<>(List.of(List.of(), List.of(), List.of()));
    private final List<List<Integer>> inputs = new ArrayList<>();
    private final int[] endsSeen;

    private ModelTest(long seed, int[] endsSeen) {
        random = new Random(seed);
        madeUp = new MadeUp(random);
        this.endsSeen = endsSeen;
    }

    public static void main(String[] args) {
        int[] endsSeen = new int[5];
        int[] faultsSeen = new int[5];
        for (int seed = 0; seed < BENCHES; seed++) {
            new ModelTest(seed, endsSeen).hold(faultsSeen);
        }
        for (int i = 0; i < 5; i++) {
            CHECK.due("some ended as " + i, endsSeen[i] > 20, true);
            CHECK.due("some FAULTS were " + i, faultsSeen[i] > 20, true);
        }
        CHECK.finish();
    }

    private void hold(int[] faultsSeen) {
        for (int n = 0; n < 12; n++) {
            holdProgram(random.nextInt(3), madeUp.brokenText(), faultsSeen);
        }
        for (int s = 0; s < 3; s++) {
            holdProgram(s, madeUp.goodText(), faultsSeen);
        }
        int count = 2 + random.nextInt(5);
        for (int i = 0; i < count; i++) {
            addInput();
        }
        for (int s = 0; s < 3; s++) {
            holdHeaps(s);
            for (int i = 0; i < inputs.size(); i++) {
                holdRun(s, i);
                holdHeld(s, (s + 1) % 3, i);
            }
            holdTrials(s, random.nextInt(inputs.size()));
        }
    }

    /** Goes on with a new object of the same programs and INPUTS if the old one has not so many calls left. */
    private void willCall(int most) {
        if (callsLeft < most) {
            x = new FallBench();
            callsLeft = CALLS_MOST;
            for (int s = 0; s < 3; s++) {
                layOn(s, texts[s]);
            }
            for (List<Integer> bytes : inputs) {
                layInput(bytes);
            }
        }
        callsLeft -= most;
        if (callsLeft < 0) {
            throw new IllegalStateException("the test itself asks too much of one object");
        }
    }

    private int layOn(int shelf, String text) {
        callsLeft -= callsToLay(text.length()) + 1;
        return Check.program(x, shelf, text);
    }

    private int layInput(List<Integer> bytes) {
        callsLeft -= callsToLay(bytes.size()) + 1;
        return Check.input(x, bytes.stream().mapToInt(b -> b).toArray());
    }

    private static int callsToLay(int length) {
        return (length + 19) / 20 + 1;
    }

    private void holdProgram(int shelf, String text, int[] faultsSeen) {
        Model.Parsed p = Model.parse(text);
        faultsSeen[p.fault()]++;
        String call = "program of '" + text.replace("\n", "\\n") + "'";
        int actsThen = p.fault() == 0 ? p.acts().size() : shelves.get(shelf).size();
        willCall(callsToLay(text.length()) + 4 + 4 * actsThen);
        CHECK.due(call, Check.program(x, shelf, text), p.fault() == 0 ? p.acts().size() : -1);
        CHECK.due(call + " fault", x.fault(0), p.fault());
        CHECK.due(call + " place", x.fault(1), p.place());
        if (p.fault() == 0) {
            shelves.set(shelf, p.acts());
            texts[shelf] = text;
        }
        List<Model.Act> acts = shelves.get(shelf);
        CHECK.due(call + " about", x.about(10 + shelf), acts.size());
        for (int k = 0; k < acts.size(); k++) {
            Model.Act a = acts.get(k);
            CHECK.due(call + " kind", x.act(shelf, k, 0), Model.NAMES.indexOf(a.name()));
            CHECK.due(call + " first", x.act(shelf, k, 1), a.first());
            CHECK.due(call + " second", x.act(shelf, k, 2), a.second());
            CHECK.due(call + " number", x.act(shelf, k, 3), a.number());
        }
    }

    private void addInput() {
        List<Integer> bytes = madeUp.bytes();
        willCall(callsToLay(bytes.size()) + 1);
        inputs.add(bytes);
        CHECK.due("input", Check.input(x, bytes.stream().mapToInt(b -> b).toArray()), inputs.size() - 1);
    }

    private void holdRun(int shelf, int i) {
        Model.Ran r = Model.run(shelves.get(shelf), inputs.get(i));
        endsSeen[r.end]++;
        willCall(8 + 45 + 3 * 40);
        CHECK.due("run", x.run(shelf, i), r.end);
        int[] want = {r.steps, r.act, r.wrong.value(), r.wrong.maker(), Model.bits(r.wrong.bytes()), r.told.size(),
            r.read};
        for (int what = 0; what < want.length; what++) {
            CHECK.due("ran(" + what + ")", x.ran(what), want[what]);
        }
        for (int k = 0; k < 45; k++) {
            CHECK.due("told", x.told(k), k < r.told.size() && k < 40 ? r.told.get(k) : 0);
        }
        for (int k = 0; k < 40; k++) {
            CHECK.due("left", x.left(k), r.cells.get(k).value());
            CHECK.due("MAKER left", x.leftOf(k, 0), r.cells.get(k).maker());
            CHECK.due("BYTES left", x.leftOf(k, 1), Model.bits(r.cells.get(k).bytes()));
        }
    }

    private void holdHeaps(int shelf) {
        List<List<Integer>> heaps = Model.heaps(shelves.get(shelf), inputs);
        willCall(1 + 5 * heaps.size() + inputs.size());
        CHECK.due("heaps", x.heaps(shelf), heaps.size());
        int[] of = new int[inputs.size()];
        java.util.Arrays.fill(of, -1);
        for (int k = 0; k < heaps.size(); k++) {
            int least = heaps.get(k).get(0);
            Model.Ran r = Model.run(shelves.get(shelf), inputs.get(least));
            int[] want = {least, heaps.get(k).size(), r.end, r.act, r.wrong.maker()};
            for (int what = 0; what < want.length; what++) {
                CHECK.due("heap", x.heap(shelf, k, what), want[what]);
            }
            for (int i : heaps.get(k)) {
                of[i] = k;
            }
        }
        for (int i = 0; i < of.length; i++) {
            CHECK.due("heapOf", x.heapOf(shelf, i), of[i]);
        }
    }

    private void holdHeld(int first, int second, int i) {
        int how = Model.held(shelves.get(first), shelves.get(second), inputs.get(i));
        willCall(2);
        CHECK.due("held", x.held(first, second, i), how);
        int count = 0;
        for (List<Integer> input : inputs) {
            count += Model.held(shelves.get(first), shelves.get(second), input) == how ? 1 : 0;
        }
        CHECK.due("heldAll", x.heldAll(first, second, how), count);
    }

    private void holdTrials(int shelf, int i) {
        List<Model.Act> acts = shelves.get(shelf);
        List<Integer> input = inputs.get(i);
        int end = Model.run(acts, input).end;
        willCall(6 + 2 * input.size());
        if (end == 0 || end == 4) {
            CHECK.due("no small", x.small(shelf, i), -1);
        } else {
            List<Integer> small = Model.small(acts, input);
            List<Integer> low = Model.low(acts, small);
            CHECK.due("small", x.small(shelf, i), small.size());
            for (int k = 0; k < small.size(); k++) {
                CHECK.due("small byte", x.smallByte(k, false), small.get(k));
                CHECK.due("low byte", x.smallByte(k, true), low.get(k));
            }
            CHECK.due("behind small", x.smallByte(small.size(), false), -1);
            CHECK.due("behind low", x.smallByte(small.size(), true), -1);
        }
        CHECK.due("ruled", x.ruled(shelf, i), Model.ruled(acts, input));
        int[] nearest = Model.nearest(acts, input);
        CHECK.due("nearest", x.nearest(shelf, i), nearest[0]);
        CHECK.due("nearestByte", x.nearestByte(shelf, i), nearest[1]);
    }
}
