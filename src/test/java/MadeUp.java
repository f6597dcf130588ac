import java.util.ArrayList;
import java.util.List;
import java.util.Random;

/** Makes up programs, good ones and broken ones, and the bytes of INPUTS. */
final class MadeUp {
    private final Random random;

    MadeUp(Random random) {
        this.random = random;
    }

    private int register() {
        return random.nextInt(4);
    }

    private String act(int labels) {
        String name = Model.NAMES.get(random.nextInt(Model.NAMES.size()));
        if (name.equals("stop") && random.nextInt(3) > 0 || name.equals("jump") && random.nextInt(2) > 0) {
            name = "in";
        }
        StringBuilder b = new StringBuilder(name);
        int rs = switch (name) {
            case "in", "set", "jump", "out" -> 1;
            case "go", "stop" -> 0;
            default -> 2;
        };
        for (int i = 0; i < rs; i++) {
            b.append(" r").append(register());
        }
        if (name.equals("set")) {
            b.append(' ').append(random.nextInt(4) > 0 ? random.nextInt(40) : random.nextInt(2000000) - 999999);
        }
        if (name.equals("go") || name.equals("less") || name.equals("same")) {
            b.append(' ').append((char) ('a' + random.nextInt(labels)));
        }
        return b.toString();
    }

    String goodText() {
        int acts = 3 + random.nextInt(25);
        int labels = 1 + random.nextInt(5);
        StringBuilder[] lines = new StringBuilder[acts + 1];
        for (int i = 0; i <= acts; i++) {
            lines[i] = new StringBuilder(i == acts ? "" : i < 3 ? "in r" + i : act(labels));
        }
        for (int l = 0; l < labels; l++) {
            lines[random.nextInt(acts + 1)].insert(0, (char) ('a' + l) + ": ");
        }
        return String.join("\n", lines);
    }

    String brokenText() {
        // Odd letters alone seldom tell a LABEL twice or want one that is not there.
        String[] ends = {"", "", "\na: stop", "\ngo z", "\nless r0 r1 y\nb:"};
        StringBuilder b = new StringBuilder(goodText()).append(ends[random.nextInt(ends.length)]);
        String odd = "abrst r1 r2:9-\n\n:;A \t0r8r12in stop go a";
        int changes = random.nextInt(4);
        for (int i = 0; i < changes; i++) {
            int at = random.nextInt(b.length());
            switch (random.nextInt(3)) {
                case 0 -> b.deleteCharAt(at);
                case 1 -> b.insert(at, odd.charAt(random.nextInt(odd.length())));
                default -> b.setCharAt(at, odd.charAt(random.nextInt(odd.length())));
            }
        }
        return b.toString();
    }

    List<Integer> bytes() {
        List<Integer> bytes = new ArrayList<>();
        int length = random.nextInt(4) == 0 ? random.nextInt(25) : random.nextInt(6);
        for (int k = 0; k < length; k++) {
            bytes.add(random.nextInt(random.nextBoolean() ? 256 : 40));
        }
        return bytes;
    }
}
