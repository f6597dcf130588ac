import java.util.ArrayList;
import java.util.Arrays;
import java.util.HashMap;
import java.util.List;
import java.util.Map;
import java.util.Random;

/**
 * All calls in any order, with arguments that are good, just off, or far off, each answer held against ModelBench: what
 * one call leaves for the next is seen here, and that none throws. The seeds are fixed.
 */
public final class MixTest {
    private static final Check CHECK = new Check("MixTest");
    private static final int BENCHES = Integer.getInteger("benches", 120);
    private static final int CALLS_MOST = 512;
    private static final int[] FAR_OFF = {Integer.MIN_VALUE, Integer.MIN_VALUE + 1, -1000, 1000, 65536,
        Integer.MAX_VALUE - 1, Integer.MAX_VALUE};
    /** Those that stand here more than once are called more often; the dear ones stand once. */
    private static final String[] NAMES = ("text text input input input feed end program drop fault fault act act act byteOf "
            + "run run run ran ran ran ran told told left left left leftOf leftOf leftOf heaps heap heap heapOf heapOf "
            + "small smallByte smallByte smallByte smallByte ruled nearest nearestByte held held heldAll about about").split(" ");

    private final Random random;
    private final MadeUp madeUp;
    private final FallBench x = new FallBench();
    private final ModelBench model = new ModelBench();
    private final Map<String, Integer> notNone;
    private int callsLeft = CALLS_MOST;

    private MixTest(long seed, Map<String, Integer> notNone) {
        random = new Random(seed);
        madeUp = new MadeUp(random);
        this.notNone = notNone;
    }

    public static void main(String[] args) {
        Map<String, Integer> notNone = new HashMap<>();
        for (int seed = 0; seed < BENCHES; seed++) {
            new MixTest(seed, notNone).mix();
        }
        for (String name : NAMES) {
            if (!name.equals("text")) {
                CHECK.due("answers of " + name + " that were not NONE", notNone.getOrDefault(name, 0) >= 20, true);
            }
        }
        CHECK.finish();
    }

    private void mix() {
        while (callsLeft > 0) {
            String name = NAMES[random.nextInt(NAMES.length)];
            if (name.equals("text")) {
                lay(random.nextInt(3) == 0 ? madeUp.brokenText() : madeUp.goodText());
                call("program", shelf());
            } else if (name.equals("input") && random.nextInt(3) > 0) {
                StringBuilder bytes = new StringBuilder();
                madeUp.bytes().forEach(b -> bytes.append((char) (int) b));
                lay(bytes.toString());
                call("input");
            } else {
                call(name, arguments(name));
            }
        }
    }

    private void lay(String text) {
        call("end", 0);
        for (int i = 0; i < text.length(); i += 20) {
            int[] n = new int[5];
            for (int k = 0; k < 20; k++) {
                n[k / 4] = n[k / 4] << 8 | (i + k < text.length() ? text.charAt(i + k) : random.nextInt(256));
            }
            call("feed", n);
        }
        call("end", text.length());
    }

    private int[] arguments(String name) {
        return switch (name) {
            case "feed" -> random.ints(5).toArray();
            case "end" -> new int[] {upTo(model.tapeLength())};
            case "program", "heaps" -> new int[] {shelf()};
            case "fault" -> new int[] {upTo(1)};
            case "act" -> actArguments();
            case "byteOf" -> new int[] {input(), upTo(23)};
            case "run", "heapOf", "small", "ruled", "nearest", "nearestByte" -> new int[] {shelf(), input()};
            case "ran" -> new int[] {upTo(6)};
            case "told" -> new int[] {random.nextBoolean() ? upTo(2) : upTo(39)};
            case "left" -> new int[] {random.nextBoolean() ? upTo(3) : upTo(39)};
            case "leftOf" -> new int[] {random.nextBoolean() ? upTo(3) : upTo(39), random.nextInt(2)};
            case "heap" -> new int[] {shelf(), upTo(2), upTo(4)};
            case "smallByte" -> new int[] {upTo(4), random.nextInt(2)};
            case "held" -> new int[] {shelf(), shelf(), input()};
            case "heldAll" -> new int[] {shelf(), shelf(), upTo(5)};
            case "about" -> new int[] {random.nextBoolean() ? upTo(1) : upTo(12)};
            default -> new int[0];
        };
    }

    private int[] actArguments() {
        int s = shelf();
        return new int[] {s, upTo(s >= 0 && s < 3 ? Math.max(model.acts(s) - 1, 0) : 5), upTo(3)};
    }

    private int shelf() {
        return upTo(2);
    }

    private int input() {
        return upTo(Math.max(model.inputCount() - 1, 0));
    }

    /** Mostly 0 .. most, now and then one off on either side, or far off. */
    private int upTo(int most) {
        int kind = random.nextInt(24);
        return kind == 0 ? -1 : kind == 1 ? most + 1 : kind == 2 ? FAR_OFF[random.nextInt(FAR_OFF.length)]
                : random.nextInt(most + 1);
    }

    private void call(String name, int... n) {
        if (callsLeft == 0) {
            return;
        }
        callsLeft--;
        int want = model.answer(name, n);
        int got = answer(name, n);
        List<Integer> shown = new ArrayList<>();
        Arrays.stream(n).forEach(shown::add);
        CHECK.due(name + shown, got, want);
        notNone.merge(name, want != FallBench.NONE ? 1 : 0, Integer::sum);
    }

    private int answer(String name, int[] n) {
        return switch (name) {
            case "feed" -> x.feed(n[0], n[1], n[2], n[3], n[4]);
            case "end" -> x.end(n[0]);
            case "program" -> x.program(n[0]);
            case "fault" -> x.fault(n[0]);
            case "act" -> x.act(n[0], n[1], n[2]);
            case "input" -> x.input();
            case "byteOf" -> x.byteOf(n[0], n[1]);
            case "drop" -> x.drop() ? 1 : 0;
            case "run" -> x.run(n[0], n[1]);
            case "ran" -> x.ran(n[0]);
            case "told" -> x.told(n[0]);
            case "left" -> x.left(n[0]);
            case "leftOf" -> x.leftOf(n[0], n[1]);
            case "heaps" -> x.heaps(n[0]);
            case "heap" -> x.heap(n[0], n[1], n[2]);
            case "heapOf" -> x.heapOf(n[0], n[1]);
            case "small" -> x.small(n[0], n[1]);
            case "smallByte" -> x.smallByte(n[0], n[1] == 1);
            case "ruled" -> x.ruled(n[0], n[1]);
            case "nearest" -> x.nearest(n[0], n[1]);
            case "nearestByte" -> x.nearestByte(n[0], n[1]);
            case "held" -> x.held(n[0], n[1], n[2]);
            case "heldAll" -> x.heldAll(n[0], n[1], n[2]);
            case "about" -> x.about(n[0]);
            default -> throw new IllegalArgumentException(name);
        };
    }
}
