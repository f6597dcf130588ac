import java.util.ArrayList;
import java.util.List;

/** The promises written a second time over the Model's terms, with all that a bench keeps from call to call. */
final class ModelBench {
    private static final int NONE = -1;

    private List<Integer> tape = new ArrayList<>();
    private final List<List<Model.Act>> shelves = new ArrayList<>(List.of(List.of(), List.of(), List.of()));
    private final List<List<Integer>> inputs = new ArrayList<>();
    private int fault = 0;
    private int faultPlace = NONE;
    private Model.Ran ran = null;
    private List<Integer> smallest = List.of();
    private List<Integer> lowest = List.of();

    /** The answer that is due to a call by its name; a boolean counts 1 or 0. */
    int answer(String name, int... n) {
        return switch (name) {
            case "feed" -> feed(n);
            case "end" -> end(n[0]);
            case "program" -> program(n[0]);
            case "fault" -> n[0] == 0 ? fault : n[0] == 1 ? faultPlace : NONE;
            case "act" -> act(n[0], n[1], n[2]);
            case "input" -> input();
            case "byteOf" -> isInput(n[0]) ? at(inputs.get(n[0]), n[1], NONE) : NONE;
            case "drop" -> drop();
            case "run" -> run(n[0], n[1]);
            case "ran" -> ran(n[0]);
            case "told" -> ran == null || n[0] >= 40 ? 0 : at(ran.told, n[0], 0);
            case "left" -> isCell(n[0]) ? ran.cells.get(n[0]).value() : 0;
            case "leftOf" -> leftOf(n[0], n[1]);
            case "heaps" -> isShelf(n[0]) ? heaps(n[0]).size() : NONE;
            case "heap" -> heap(n[0], n[1], n[2]);
            case "heapOf" -> heapOf(n[0], n[1]);
            case "small" -> small(n[0], n[1]);
            case "smallByte" -> at(n[1] == 1 ? lowest : smallest, n[0], NONE);
            case "ruled" -> are(n[0], n[1]) ? Model.ruled(shelves.get(n[0]), inputs.get(n[1])) : NONE;
            case "nearest" -> are(n[0], n[1]) ? Model.nearest(shelves.get(n[0]), inputs.get(n[1]))[0] : NONE;
            case "nearestByte" -> are(n[0], n[1]) ? Model.nearest(shelves.get(n[0]), inputs.get(n[1]))[1] : NONE;
            case "held" -> isShelf(n[0]) && are(n[1], n[2]) ? held(n[0], n[1], n[2]) : NONE;
            case "heldAll" -> heldAll(n[0], n[1], n[2]);
            case "about" -> about(n[0]);
            default -> throw new IllegalArgumentException(name);
        };
    }

    int inputCount() {
        return inputs.size();
    }

    int tapeLength() {
        return tape.size();
    }

    int acts(int shelf) {
        return shelves.get(shelf).size();
    }

    private static boolean isShelf(int shelf) {
        return shelf == 0 || shelf == 1 || shelf == 2;
    }

    private boolean isInput(int input) {
        return 0 <= input && input < inputs.size();
    }

    private boolean are(int shelf, int input) {
        return isShelf(shelf) && isInput(input);
    }

    private boolean isCell(int k) {
        return ran != null && 0 <= k && k < 40;
    }

    private static int at(List<Integer> list, int k, int without) {
        return 0 <= k && k < list.size() ? list.get(k) : without;
    }

    private int feed(int[] numbers) {
        if (tape.size() > 980) {
            return NONE;
        }
        for (int number : numbers) {
            for (byte b : java.nio.ByteBuffer.allocate(4).putInt(number).array()) {
                tape.add(Byte.toUnsignedInt(b));
            }
        }
        return tape.size();
    }

    private int end(int n) {
        if (n < 0 || n > tape.size()) {
            return NONE;
        }
        tape = new ArrayList<>(tape.subList(0, n));
        return n;
    }

    private int program(int shelf) {
        if (!isShelf(shelf)) {
            return -2;
        }
        StringBuilder text = new StringBuilder();
        tape.forEach(b -> text.append((char) (int) b));
        tape.clear();
        Model.Parsed p = Model.parse(text.toString());
        fault = p.fault();
        faultPlace = p.place();
        if (fault != 0) {
            return NONE;
        }
        shelves.set(shelf, p.acts());
        return p.acts().size();
    }

    private int act(int shelf, int k, int what) {
        if (!isShelf(shelf) || k < 0 || k >= shelves.get(shelf).size() || what < 0 || what > 3) {
            return what == 3 ? -1000000 : NONE;
        }
        Model.Act a = shelves.get(shelf).get(k);
        return List.of(Model.NAMES.indexOf(a.name()), a.first(), a.second(), a.number()).get(what);
    }

    private int input() {
        if (tape.size() > 24 || inputs.size() == 30) {
            return NONE;
        }
        inputs.add(List.copyOf(tape));
        tape.clear();
        return inputs.size() - 1;
    }

    private int drop() {
        if (inputs.isEmpty()) {
            return 0;
        }
        inputs.remove(inputs.size() - 1);
        return 1;
    }

    private int run(int shelf, int input) {
        if (!are(shelf, input)) {
            return NONE;
        }
        ran = Model.run(shelves.get(shelf), inputs.get(input));
        return ran.end;
    }

    private int ran(int what) {
        return ran == null ? NONE : at(List.of(ran.steps, ran.act, ran.wrong.value(), ran.wrong.maker(),
                Model.bits(ran.wrong.bytes()), ran.told.size(), ran.read), what, NONE);
    }

    private int leftOf(int k, int what) {
        if (what == 1) {
            return isCell(k) ? Model.bits(ran.cells.get(k).bytes()) : 0;
        }
        return what == 0 && isCell(k) ? ran.cells.get(k).maker() : NONE;
    }

    private List<List<Integer>> heaps(int shelf) {
        return Model.heaps(shelves.get(shelf), inputs);
    }

    private int heap(int shelf, int k, int what) {
        if (!isShelf(shelf) || k < 0 || k >= heaps(shelf).size()) {
            return NONE;
        }
        List<Integer> heap = heaps(shelf).get(k);
        Model.Ran r = Model.run(shelves.get(shelf), inputs.get(heap.get(0)));
        return at(List.of(heap.get(0), heap.size(), r.end, r.act, r.wrong.maker()), what, NONE);
    }

    private int heapOf(int shelf, int input) {
        if (are(shelf, input)) {
            List<List<Integer>> heaps = heaps(shelf);
            for (int k = 0; k < heaps.size(); k++) {
                if (heaps.get(k).contains(input)) {
                    return k;
                }
            }
        }
        return NONE;
    }

    private int small(int shelf, int input) {
        if (!are(shelf, input)) {
            return NONE;
        }
        int end = Model.run(shelves.get(shelf), inputs.get(input)).end;
        if (end == 0 || end == 4) {
            return NONE;
        }
        smallest = Model.small(shelves.get(shelf), inputs.get(input));
        lowest = Model.low(shelves.get(shelf), smallest);
        return smallest.size();
    }

    private int held(int first, int second, int input) {
        return Model.held(shelves.get(first), shelves.get(second), inputs.get(input));
    }

    private int heldAll(int first, int second, int how) {
        if (!isShelf(first) || !isShelf(second) || how < 0 || how > 5) {
            return NONE;
        }
        int count = 0;
        for (int i = 0; i < inputs.size(); i++) {
            count += held(first, second, i) == how ? 1 : 0;
        }
        return count;
    }

    private int about(int what) {
        return switch (what) {
            case 0 -> inputs.size();
            case 1 -> tape.size();
            case 10, 11, 12 -> shelves.get(what - 10).size();
            default -> NONE;
        };
    }
}
