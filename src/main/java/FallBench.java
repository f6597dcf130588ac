import java.util.Arrays;

/**
 * A bench that sorts inputs that make a small program end badly. The document's words (PROGRAMS, RUN, ENDS, MAKER,
 * BYTES, CAUSE, INPUTS, HEAPS, SMALL, LOW, RULED, NEAREST, HELD) are used here in its sense.
 */
public final class FallBench {
    public static final int NONE = -1;

    private static final int NO_SHELF = -2;
    private static final int NO_NUMBER = -1000000;

    private static final int SHELVES = 3;
    private static final int TEXT_MOST = 1000;
    private static final int FED_BYTES = 20;
    private static final int LINE_END = 10;
    private static final int ACTS_MOST = 80;
    private static final int LABELS_MOST = 20;
    private static final int WORD_MOST = 8;
    private static final int DIGITS_MOST = 6;
    private static final int INPUTS_MOST = 30;
    private static final int INPUT_BYTES_MOST = 24;
    private static final int BYTE_VALUES = 256;
    private static final int REGISTERS = 8;
    private static final int PLACES = 32;
    private static final int CELLS = REGISTERS + PLACES;
    private static final int TOLD_MOST = 40;
    private static final int STEPS_MOST = 1000;
    private static final int HELD_KINDS = 6;
    private static final int ABOUT_SHELVES = 10;

    private static final int WELL = 0;
    private static final int READ = 1;
    private static final int WRITE = 2;
    private static final int JUMPED = 3;
    private static final int ENDLESS = 4;

    private static final int IN = 0;
    private static final int SET = 1;
    private static final int COPY = 2;
    private static final int ADD = 3;
    private static final int SUB = 4;
    private static final int MUL = 5;
    private static final int LOAD = 6;
    private static final int STORE = 7;
    private static final int LESS = 8;
    private static final int SAME = 9;
    private static final int GO = 10;
    private static final int JUMP = 11;
    private static final int OUT = 12;
    private static final int STOP = 13;
    private static final int KINDS = 14;

    /** In the order of the kinds; each name has one blank behind it. */
    private static final String ACT_NAMES = "in set copy add sub mul load store less same go jump out stop ";
    /** How many registers each kind of act names. */
    private static final int[] REGISTERS_OF = {1, 1, 2, 2, 2, 2, 2, 2, 2, 2, 0, 1, 1, 0};

    private static final int NO_FAULT = 0;
    private static final int NO_TOKEN = 1;
    private static final int CANT_STAND = 2;
    private static final int TOLD_ALREADY = 3;
    private static final int NOT_THERE = 4;

    private static final int BAD_TOKEN = 0;
    private static final int WORD_TOKEN = 1;
    private static final int REGISTER_TOKEN = 2;
    private static final int NUMBER_TOKEN = 3;
    private static final int COLON_TOKEN = 4;
    private static final int LINE_TOKEN = 5;
    private static final int END_TOKEN = 6;

    private final Row tape = new Row(TEXT_MOST);
    private final Program[] shelves = new Program[SHELVES];
    private final Parser parser = new Parser();
    private final Row[] inputs = new Row[INPUTS_MOST];
    private final Machine latest = new Machine();
    private final Machine one = new Machine();
    private final Machine two = new Machine();
    private final Sorter sorter = new Sorter();
    private final Trier trier = new Trier();
    private int inputCount = 0;
    private boolean hasRun = false;

    public FallBench() {
        for (int s = 0; s < SHELVES; s++) {
            shelves[s] = new Program();
        }
        for (int i = 0; i < INPUTS_MOST; i++) {
            inputs[i] = new Row(INPUT_BYTES_MOST);
        }
    }

    public int feed(int a, int b, int c, int d, int e) {
        if (tape.length + FED_BYTES > TEXT_MOST) {
            return NONE;
        }
        addFour(a);
        addFour(b);
        addFour(c);
        addFour(d);
        addFour(e);
        return tape.length;
    }

    public int end(int n) {
        if (n < 0 || n > tape.length) {
            return NONE;
        }
        tape.length = n;
        return n;
    }

    public int program(int shelf) {
        if (!isShelf(shelf)) {
            return NO_SHELF;
        }
        parser.parse(tape);
        tape.length = 0;
        if (parser.faultKind != NO_FAULT) {
            return NONE;
        }
        shelves[shelf] = parser.exchange(shelves[shelf]);
        return shelves[shelf].count;
    }

    public int fault(int what) {
        switch (what) {
            case 0: return parser.faultKind;
            case 1: return parser.faultPlace;
            default: return NONE;
        }
    }

    public int act(int shelf, int k, int what) {
        if (!isShelf(shelf) || k < 0 || k >= shelves[shelf].count) {
            return what == 3 ? NO_NUMBER : NONE;
        }
        Program p = shelves[shelf];
        switch (what) {
            case 0: return p.kinds[k];
            case 1: return p.firsts[k];
            case 2: return p.seconds[k];
            case 3: return p.numbers[k];
            default: return NONE;
        }
    }

    public int input() {
        if (tape.length > INPUT_BYTES_MOST || inputCount >= INPUTS_MOST) {
            return NONE;
        }
        inputs[inputCount].copyFrom(tape);
        tape.length = 0;
        inputCount++;
        return inputCount - 1;
    }

    public int byteOf(int input, int k) {
        return isInput(input) ? inputs[input].byteAt(k) : NONE;
    }

    public boolean drop() {
        if (inputCount == 0) {
            return false;
        }
        inputCount--;
        return true;
    }

    public int run(int shelf, int input) {
        if (!isShelf(shelf) || !isInput(input)) {
            return NONE;
        }
        latest.runWhole(shelves[shelf], inputs[input]);
        hasRun = true;
        return latest.ended;
    }

    public int ran(int what) {
        if (!hasRun) {
            return NONE;
        }
        switch (what) {
            case 0: return latest.steps;
            case 1: return latest.endAct;
            case 2: return latest.wrong;
            case 3: return latest.wrongMaker;
            case 4: return latest.wrongBytes;
            case 5: return latest.toldCount;
            case 6: return latest.readCount;
            default: return NONE;
        }
    }

    public int told(int k) {
        if (!hasRun || k < 0 || k >= Math.min(latest.toldCount, TOLD_MOST)) {
            return 0;
        }
        return latest.toldValues[k];
    }

    public int left(int k) {
        return hasRun && isCell(k) ? latest.values[k] : 0;
    }

    public int leftOf(int k, int what) {
        boolean there = hasRun && isCell(k);
        switch (what) {
            case 0: return there ? latest.makers[k] : NONE;
            case 1: return there ? latest.bytes[k] : 0;
            default: return NONE;
        }
    }

    public int heaps(int shelf) {
        if (!isShelf(shelf)) {
            return NONE;
        }
        sortInputs(shelf);
        return sorter.count;
    }

    public int heap(int shelf, int k, int what) {
        if (!isShelf(shelf)) {
            return NONE;
        }
        sortInputs(shelf);
        if (k < 0 || k >= sorter.count) {
            return NONE;
        }
        switch (what) {
            case 0: return sorter.leasts[k];
            case 1: return sorter.sizes[k];
            case 2: return sorter.ends[k];
            case 3: return sorter.acts[k];
            case 4: return sorter.makers[k];
            default: return NONE;
        }
    }

    public int heapOf(int shelf, int input) {
        if (!isShelf(shelf) || !isInput(input)) {
            return NONE;
        }
        sortInputs(shelf);
        return sorter.heapOfInput[input];
    }

    public int small(int shelf, int input) {
        if (!isShelf(shelf) || !isInput(input)) {
            return NONE;
        }
        return trier.makeSmall(shelves[shelf], inputs[input]) ? trier.smallest.length : NONE;
    }

    public int smallByte(int k, boolean low) {
        return low ? trier.lowest.byteAt(k) : trier.smallest.byteAt(k);
    }

    public int ruled(int shelf, int input) {
        if (!isShelf(shelf) || !isInput(input)) {
            return NONE;
        }
        return trier.rulingBytes(shelves[shelf], inputs[input]);
    }

    public int nearest(int shelf, int input) {
        if (!isShelf(shelf) || !isInput(input)) {
            return NONE;
        }
        trier.findNearest(shelves[shelf], inputs[input]);
        return trier.nearestPlace;
    }

    public int nearestByte(int shelf, int input) {
        if (!isShelf(shelf) || !isInput(input)) {
            return NONE;
        }
        trier.findNearest(shelves[shelf], inputs[input]);
        return trier.nearestValue;
    }

    public int held(int first, int second, int input) {
        if (!isShelf(first) || !isShelf(second) || !isInput(input)) {
            return NONE;
        }
        return holdOne(first, second, input);
    }

    public int heldAll(int first, int second, int how) {
        if (!isShelf(first) || !isShelf(second) || how < 0 || how >= HELD_KINDS) {
            return NONE;
        }
        int count = 0;
        for (int i = 0; i < inputCount; i++) {
            if (holdOne(first, second, i) == how) {
                count++;
            }
        }
        return count;
    }

    public int about(int what) {
        if (what == 0) {
            return inputCount;
        }
        if (what == 1) {
            return tape.length;
        }
        if (what >= ABOUT_SHELVES && what < ABOUT_SHELVES + SHELVES) {
            return shelves[what - ABOUT_SHELVES].count;
        }
        return NONE;
    }

    private void addFour(int number) {
        for (int shift = 24; shift >= 0; shift -= 8) {
            tape.add((number >> shift) & 255);
        }
    }

    private boolean isInput(int input) {
        return input >= 0 && input < inputCount;
    }

    private void sortInputs(int shelf) {
        sorter.count = 0;
        for (int i = 0; i < inputCount; i++) {
            one.runWhole(shelves[shelf], inputs[i]);
            sorter.sortIn(i, one);
        }
    }

    private int holdOne(int first, int second, int input) {
        one.runWhole(shelves[first], inputs[input]);
        two.runWhole(shelves[second], inputs[input]);
        boolean firstWell = one.ended == WELL;
        boolean secondWell = two.ended == WELL;
        if (firstWell && secondWell) {
            return one.toldTheSame(two) ? 0 : 1;
        }
        if (secondWell) {
            return 2;
        }
        if (firstWell) {
            return 3;
        }
        return one.ended == two.ended ? 4 : 5;
    }

    private static boolean isShelf(int shelf) {
        return shelf >= 0 && shelf < SHELVES;
    }

    private static boolean isCell(int k) {
        return k >= 0 && k < CELLS;
    }

    private static boolean isLetter(int b) {
        return b >= 'a' && b <= 'z';
    }

    private static boolean isDigit(int b) {
        return b >= '0' && b <= '9';
    }

    /** A word is kept as a number, five bits a letter: eight letters fit a long and no text need be made. */
    private static long withLetter(long word, int letter) {
        return word * 32 + (letter - 'a' + 1);
    }

    /** Bytes one behind the other, up to a limit. */
    private static final class Row {
        final int[] bytes;
        int length = 0;

        Row(int most) {
            bytes = new int[Math.max(most, 0)];
        }

        int byteAt(int k) {
            return k >= 0 && k < length && k < bytes.length ? bytes[k] : NONE;
        }

        void add(int b) {
            if (length >= 0 && length < bytes.length) {
                bytes[length] = b;
                length++;
            }
        }

        void setByte(int k, int b) {
            if (k >= 0 && k < length && k < bytes.length) {
                bytes[k] = b;
            }
        }

        void copyFrom(Row other) {
            length = 0;
            for (int k = 0; k < other.length; k++) {
                add(other.byteAt(k));
            }
        }

        void copyWithout(Row other, int out) {
            length = 0;
            for (int k = 0; k < other.length; k++) {
                if (k != out) {
                    add(other.byteAt(k));
                }
            }
        }
    }

    /** The acts of a program, a column for each thing that can be asked of them. */
    private static final class Program {
        final int[] kinds = new int[ACTS_MOST];
        final int[] firsts = new int[ACTS_MOST];
        final int[] seconds = new int[ACTS_MOST];
        final int[] numbers = new int[ACTS_MOST];
        int count = 0;
    }

    /** The TOKENS of a text up to the first place where there is none; the last is that, or the text's end. */
    private static final class Tokens {
        final int[] kinds = new int[TEXT_MOST + 1];
        final int[] places = new int[TEXT_MOST + 1];
        /** What a register or number is, or a word's letters. */
        final long[] values = new long[TEXT_MOST + 1];
        private int next = 0;

        void readFrom(Row text) {
            next = 0;
            boolean more = true;
            for (int n = 0; n <= TEXT_MOST && more; n++) {
                skipBlanks(text);
                places[n] = next;
                kinds[n] = readKind(text, n);
                more = kinds[n] != BAD_TOKEN && kinds[n] != END_TOKEN;
            }
        }

        private void skipBlanks(Row text) {
            while (next < TEXT_MOST && text.byteAt(next) == ' ') {
                next++;
            }
        }

        private int readKind(Row text, int n) {
            int b = text.byteAt(next);
            if (b == NONE) {
                return END_TOKEN;
            }
            if (isRegister(text)) {
                values[n] = text.byteAt(next + 1) - '0';
                next += 2;
                return REGISTER_TOKEN;
            }
            if (isLetter(b)) {
                return readWord(text, n);
            }
            if (isDigit(b) || b == '-') {
                return readNumber(text, n);
            }
            next++;
            return b == LINE_END ? LINE_TOKEN : b == ':' ? COLON_TOKEN : BAD_TOKEN;
        }

        private boolean isRegister(Row text) {
            int digit = text.byteAt(next + 1);
            int behind = text.byteAt(next + 2);
            return text.byteAt(next) == 'r' && digit >= '0' && digit < '0' + REGISTERS
                    && !isLetter(behind) && !isDigit(behind);
        }

        private int readWord(Row text, int n) {
            int letters = 0;
            long word = 0;
            while (letters < TEXT_MOST && isLetter(text.byteAt(next))) {
                word = withLetter(word, text.byteAt(next));
                letters++;
                next++;
            }
            values[n] = word;
            return letters <= WORD_MOST ? WORD_TOKEN : BAD_TOKEN;
        }

        private int readNumber(Row text, int n) {
            boolean minus = text.byteAt(next) == '-';
            if (minus) {
                next++;
            }
            int digits = 0;
            long number = 0;
            while (digits < TEXT_MOST && isDigit(text.byteAt(next))) {
                number = number * 10 + (text.byteAt(next) - '0');
                digits++;
                next++;
            }
            values[n] = minus ? -number : number;
            boolean good = digits >= 1 && digits <= DIGITS_MOST && !isLetter(text.byteAt(next));
            return good ? NUMBER_TOKEN : BAD_TOKEN;
        }
    }

    /** Reads a text as a program, up to its first FAULT. */
    private static final class Parser {
        private final Tokens tokens = new Tokens();
        private final long[] actNames = new long[KINDS];
        private final long[] labels = new long[LABELS_MOST];
        private final int[] labelActs = new int[LABELS_MOST];
        private final long[] wanted = new long[ACTS_MOST];
        private final int[] wantedPlaces = new int[ACTS_MOST];
        private int labelCount = 0;
        private int at = 0;
        /** None that is on a SHELF: a FAULT leaves those as they were. */
        private Program into = new Program();
        int faultKind = NO_FAULT;
        int faultPlace = NONE;

        Parser() {
            int kind = 0;
            long word = 0;
            for (int i = 0; i < ACT_NAMES.length() && kind < KINDS; i++) {
                char c = ACT_NAMES.charAt(i);
                if (c == ' ') {
                    actNames[kind] = word;
                    kind++;
                    word = 0;
                } else {
                    word = withLetter(word, c);
                }
            }
        }

        void parse(Row text) {
            into.count = 0;
            labelCount = 0;
            at = 0;
            faultKind = NO_FAULT;
            faultPlace = NONE;
            tokens.readFrom(text);
            boolean more = true;
            for (int line = 0; line <= TEXT_MOST && more; line++) {
                more = readLine();
            }
            if (faultKind == NO_FAULT) {
                findWanted();
            }
        }

        /** Gives what was read for a program that is used no more, into which the next one is read. */
        Program exchange(Program old) {
            Program read = into;
            into = old;
            return read;
        }

        /** Whether another line comes behind this one. */
        private boolean readLine() {
            for (int n = 0; n <= LABELS_MOST && faultKind == NO_FAULT && labelIsNext(); n++) {
                readLabel();
            }
            if (faultKind == NO_FAULT && kindOfToken() == WORD_TOKEN) {
                readAct();
            }
            if (faultKind == NO_FAULT && kindOfToken() == END_TOKEN) {
                return false;
            }
            return take(LINE_TOKEN);
        }

        private void readLabel() {
            if (labelCount >= LABELS_MOST) {
                setFault(CANT_STAND);
            } else if (labelNumber(tokens.values[at]) != NONE) {
                setFault(TOLD_ALREADY);
            } else {
                labels[labelCount] = tokens.values[at];
                labelActs[labelCount] = into.count;
                labelCount++;
                take(WORD_TOKEN);
                take(COLON_TOKEN);
            }
        }

        private void readAct() {
            int kind = kindOfWord(tokens.values[at]);
            int act = into.count;
            if (kind == NONE || act >= ACTS_MOST) {
                setFault(CANT_STAND);
                return;
            }
            take(WORD_TOKEN);
            into.kinds[act] = kind;
            into.firsts[act] = REGISTERS_OF[kind] >= 1 ? takeValue(REGISTER_TOKEN) : NONE;
            into.seconds[act] = REGISTERS_OF[kind] >= 2 ? takeValue(REGISTER_TOKEN) : NONE;
            into.numbers[act] = kind == SET ? takeValue(NUMBER_TOKEN) : 0;
            if (goesToLabel(kind)) {
                takeWanted(act);
            }
            into.count++;
        }

        private void takeWanted(int act) {
            wanted[act] = tokens.values[at];
            wantedPlaces[act] = tokens.places[at];
            if (faultKind == NO_FAULT && kindOfToken() == WORD_TOKEN && !labelIsNext()) {
                setFault(CANT_STAND);
            }
            take(WORD_TOKEN);
        }

        private int takeValue(int kind) {
            int value = (int) tokens.values[at];
            return take(kind) ? value : NONE;
        }

        /** Behind a FAULT nothing more is taken, so that the first one stays. */
        private boolean take(int kind) {
            if (faultKind != NO_FAULT) {
                return false;
            }
            if (kindOfToken() != kind) {
                setFault(kindOfToken() == BAD_TOKEN ? NO_TOKEN : CANT_STAND);
                return false;
            }
            if (at < TEXT_MOST) {
                at++;
            }
            return true;
        }

        private void findWanted() {
            for (int act = 0; act < into.count && faultKind == NO_FAULT; act++) {
                if (goesToLabel(into.kinds[act])) {
                    int label = labelNumber(wanted[act]);
                    if (label == NONE) {
                        faultKind = NOT_THERE;
                        faultPlace = wantedPlaces[act];
                    } else {
                        into.numbers[act] = labelActs[label];
                    }
                }
            }
        }

        private void setFault(int kind) {
            faultKind = kind;
            faultPlace = tokens.places[at];
        }

        private boolean labelIsNext() {
            return kindOfToken() == WORD_TOKEN && kindOfWord(tokens.values[at]) == NONE;
        }

        private int kindOfToken() {
            return tokens.kinds[at];
        }

        private int kindOfWord(long word) {
            for (int kind = 0; kind < KINDS; kind++) {
                if (actNames[kind] == word) {
                    return kind;
                }
            }
            return NONE;
        }

        private int labelNumber(long word) {
            for (int i = 0; i < labelCount; i++) {
                if (labels[i] == word) {
                    return i;
                }
            }
            return NONE;
        }

        private static boolean goesToLabel(int kind) {
            return kind == LESS || kind == SAME || kind == GO;
        }
    }

    /** Does RUNS, and keeps all that can be asked of the last one. Cells are the registers, then the PLACES. */
    private static final class Machine {
        final int[] values = new int[CELLS];
        final int[] makers = new int[CELLS];
        final int[] bytes = new int[CELLS];
        final int[] toldValues = new int[TOLD_MOST];
        int toldCount = 0;
        int readCount = 0;
        int steps = 0;
        int ended = NONE;
        int endAct = NONE;
        int wrong = 0;
        int wrongMaker = NONE;
        int wrongBytes = 0;
        private int next = 0;

        void runWhole(Program p, Row from) {
            clear();
            for (int n = 0; n <= STEPS_MOST && ended == NONE; n++) {
                if (next < 0 || next >= p.count) {
                    ended = WELL;
                } else if (steps >= STEPS_MOST) {
                    ended = ENDLESS;
                } else {
                    doAct(p, next, from);
                }
            }
        }

        boolean endedAtAct() {
            return endAct != NONE;
        }

        boolean hasCauseOf(Machine other) {
            return ended == other.ended && endAct == other.endAct && wrongMaker == other.wrongMaker;
        }

        boolean toldTheSame(Machine other) {
            if (toldCount != other.toldCount) {
                return false;
            }
            for (int k = 0; k < toldCount && k < TOLD_MOST; k++) {
                if (toldValues[k] != other.toldValues[k]) {
                    return false;
                }
            }
            return true;
        }

        private void clear() {
            Arrays.fill(values, 0);
            Arrays.fill(makers, NONE);
            Arrays.fill(bytes, 0);
            toldCount = 0;
            readCount = 0;
            steps = 0;
            ended = NONE;
            endAct = NONE;
            wrong = 0;
            wrongMaker = NONE;
            wrongBytes = 0;
            next = 0;
        }

        private void doAct(Program p, int act, Row from) {
            int r = asRegister(p.firsts[act]);
            int s = asRegister(p.seconds[act]);
            int number = p.numbers[act];
            next = act + 1;
            switch (p.kinds[act]) {
                case IN: readByte(r, act, from); break;
                case SET: make(r, number, act, 0); break;
                case COPY: carry(s, r, 0); break;
                case ADD: make(r, values[r] + values[s], act, bytes[r] | bytes[s]); break;
                case SUB: make(r, values[r] - values[s], act, bytes[r] | bytes[s]); break;
                case MUL: make(r, values[r] * values[s], act, bytes[r] | bytes[s]); break;
                case LOAD: load(r, s, act); break;
                case STORE: store(r, s, act); break;
                case LESS: goIf(values[r] < values[s], number); break;
                case SAME: goIf(values[r] == values[s], number); break;
                case GO: next = number; break;
                case JUMP: jump(r, act, p.count); break;
                case OUT: tell(values[r]); break;
                case STOP:
                default: ended = WELL; break;
            }
            if (!endedAtAct()) {
                steps++;
            }
        }

        private void readByte(int r, int act, Row from) {
            int b = from.byteAt(readCount);
            if (b == NONE) {
                make(r, NONE, act, 0);
            } else {
                make(r, b, act, 1 << readCount);
                readCount++;
            }
        }

        private void load(int r, int s, int act) {
            if (isPlace(values[s])) {
                carry(REGISTERS + values[s], r, bytes[s]);
            } else {
                endBadly(READ, act, s);
            }
        }

        private void store(int r, int s, int act) {
            if (isPlace(values[r])) {
                carry(s, REGISTERS + values[r], bytes[r]);
            } else {
                endBadly(WRITE, act, r);
            }
        }

        private void jump(int r, int act, int acts) {
            if (values[r] >= 0 && values[r] < acts) {
                next = values[r];
            } else {
                endBadly(JUMPED, act, r);
            }
        }

        private void goIf(boolean goes, int act) {
            if (goes) {
                next = act;
            }
        }

        private void tell(int value) {
            if (toldCount < TOLD_MOST) {
                toldValues[toldCount] = value;
            }
            toldCount++;
        }

        private void make(int cell, int value, int act, int itsBytes) {
            values[cell] = value;
            makers[cell] = act;
            bytes[cell] = itsBytes;
        }

        private void carry(int from, int to, int bytesOfPlace) {
            values[to] = values[from];
            makers[to] = makers[from];
            bytes[to] = bytes[from] | bytesOfPlace;
        }

        private void endBadly(int how, int act, int cell) {
            ended = how;
            endAct = act;
            wrong = values[cell];
            wrongMaker = makers[cell];
            wrongBytes = bytes[cell];
        }

        private static boolean isPlace(int value) {
            return value >= 0 && value < PLACES;
        }

        /** An act without a register has NONE there: it uses none, but NONE must not come near an index. */
        private static int asRegister(int named) {
            return named >= 0 && named < REGISTERS ? named : 0;
        }
    }

    /** Puts INPUTS, from the least on, into HEAPS by their CAUSES. */
    private static final class Sorter {
        final int[] leasts = new int[INPUTS_MOST];
        final int[] sizes = new int[INPUTS_MOST];
        final int[] ends = new int[INPUTS_MOST];
        final int[] acts = new int[INPUTS_MOST];
        final int[] makers = new int[INPUTS_MOST];
        final int[] heapOfInput = new int[INPUTS_MOST];
        int count = 0;

        void sortIn(int number, Machine m) {
            if (number < 0 || number >= INPUTS_MOST) {
                return;
            }
            heapOfInput[number] = NONE;
            if (m.ended == WELL) {
                return;
            }
            int k = heapLike(m);
            if (k == NONE) {
                k = newHeap(number, m);
            }
            if (k != NONE) {
                sizes[k]++;
                heapOfInput[number] = k;
            }
        }

        private int heapLike(Machine m) {
            for (int k = 0; k < count; k++) {
                if (ends[k] == m.ended && acts[k] == m.endAct && makers[k] == m.wrongMaker) {
                    return k;
                }
            }
            return NONE;
        }

        private int newHeap(int number, Machine m) {
            if (count >= INPUTS_MOST) {
                return NONE;
            }
            leasts[count] = number;
            sizes[count] = 0;
            ends[count] = m.ended;
            acts[count] = m.endAct;
            makers[count] = m.wrongMaker;
            count++;
            return count - 1;
        }
    }

    /** Tries changed INPUTS against one as it is: SMALL, LOW, RULED and NEAREST. */
    private static final class Trier {
        final Row smallest = new Row(INPUT_BYTES_MOST);
        final Row lowest = new Row(INPUT_BYTES_MOST);
        int nearestPlace = NONE;
        int nearestValue = NONE;
        private final Row changed = new Row(INPUT_BYTES_MOST);
        private final Machine asItIs = new Machine();
        private final Machine trial = new Machine();

        /** Whether the end is one that SMALL is told of; if not, the earlier SMALL stays. */
        boolean makeSmall(Program p, Row from) {
            asItIs.runWhole(p, from);
            if (!asItIs.endedAtAct()) {
                return false;
            }
            smallest.copyFrom(from);
            boolean anyOut = true;
            for (int pass = 0; pass <= INPUT_BYTES_MOST && anyOut; pass++) {
                anyOut = leaveOutOnce(p);
            }
            lowest.copyFrom(smallest);
            for (int k = 0; k < lowest.length; k++) {
                lowerByte(p, k);
            }
            return true;
        }

        int rulingBytes(Program p, Row from) {
            asItIs.runWhole(p, from);
            if (!asItIs.endedAtAct()) {
                return 0;
            }
            changed.copyFrom(from);
            int bits = 0;
            // A byte that was not read can't change the run, so only those that were are tried.
            for (int k = 0; k < asItIs.readCount; k++) {
                if (byteRules(p, k)) {
                    bits |= 1 << k;
                }
                changed.setByte(k, from.byteAt(k));
            }
            return bits;
        }

        void findNearest(Program p, Row from) {
            nearestPlace = NONE;
            nearestValue = NONE;
            asItIs.runWhole(p, from);
            if (asItIs.ended == WELL) {
                return;
            }
            changed.copyFrom(from);
            for (int k = 0; k < asItIs.readCount && nearestPlace == NONE; k++) {
                int value = leastThatEndsWell(p, k);
                if (value != NONE) {
                    nearestPlace = k;
                    nearestValue = value;
                }
                changed.setByte(k, from.byteAt(k));
            }
        }

        private boolean leaveOutOnce(Program p) {
            boolean anyOut = false;
            int k = 0;
            for (int tried = 0; tried < INPUT_BYTES_MOST && k < smallest.length; tried++) {
                changed.copyWithout(smallest, k);
                trial.runWhole(p, changed);
                if (trial.hasCauseOf(asItIs)) {
                    smallest.copyFrom(changed);
                    anyOut = true;
                } else {
                    k++;
                }
            }
            return anyOut;
        }

        private void lowerByte(Program p, int k) {
            int old = lowest.byteAt(k);
            for (int value = 0; value < old; value++) {
                lowest.setByte(k, value);
                trial.runWhole(p, lowest);
                if (trial.hasCauseOf(asItIs)) {
                    return;
                }
            }
            lowest.setByte(k, old);
        }

        private boolean byteRules(Program p, int k) {
            for (int value = 0; value < BYTE_VALUES; value++) {
                changed.setByte(k, value);
                trial.runWhole(p, changed);
                if (trial.ended == asItIs.ended && trial.endAct == asItIs.endAct && trial.wrong != asItIs.wrong) {
                    return true;
                }
            }
            return false;
        }

        private int leastThatEndsWell(Program p, int k) {
            for (int value = 0; value < BYTE_VALUES; value++) {
                changed.setByte(k, value);
                trial.runWhole(p, changed);
                if (trial.ended == WELL) {
                    return value;
                }
            }
            return NONE;
        }
    }
}
