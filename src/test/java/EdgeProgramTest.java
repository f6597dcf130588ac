/** The boundary cases of promises 4, 5, 6, one function for each sentence that names one. */
public final class EdgeProgramTest {
    private static final Check CHECK = new Check("EdgeProgramTest");
    private static final int LEAST = Integer.MIN_VALUE;
    private static final int MOST = Integer.MAX_VALUE;
    private static final int[] NO_SHELVES = {-1, -2, 3, 10, LEAST, MOST};
    private static final String TWENTY = "a:b:c:d:e:f:g:h:i:j:k:l:m:n:o:p:q:r:s:t:";

    public static void main(String[] args) {
        programEmptiesTheTape();
        programOf1000();
        programOfNothing();
        programFaultStays();
        programNoShelf();
        lineEnds();
        lineLabels();
        wordsOfEight();
        wordsOfLetters();
        labelsAreNoActs();
        registerDigits();
        registerAlone();
        numberDigits();
        numberMinus();
        numberLetterBehind();
        blanksPartOrNot();
        asLongAsCanBe();
        acts80();
        labels20();
        faultOfNone();
        faultOfTheLatest();
        faultAtTheEnd();
        faultFirstByPlace();
        faultAtOnePlace();
        faultToldAlready();
        faultNotThere();
        faultAnother();
        actRegisters();
        actNumber();
        actGoesTo();
        actNoneSuch();
        CHECK.finish();
    }

    private static void programEmptiesTheTape() {
        CHECK.edge(4, "The TAPE (empty then) is the program of a SHELF: how many acts");
        FallBench x = new FallBench();
        for (int s = 0; s < 3; s++) {
            CHECK.due("program(" + s + ")", Check.program(x, s, "stop\n".repeat(s + 1)), s + 1);
            CHECK.due("about(1)", x.about(1), 0);
        }
        for (int s = 0; s < 3; s++) {
            CHECK.due("about", x.about(10 + s), s + 1);
        }
    }

    private static void programOf1000() {
        CHECK.edge(4, "texts of at most 1,000 bytes");
        CHECK.actsDue("\n".repeat(1000), 0);
        CHECK.actsDue(" ".repeat(1000), 0);
        CHECK.actsDue(" ".repeat(996) + "stop", 1);
        CHECK.actsDue("stop" + " ".repeat(996), 1);
        CHECK.actsDue(" ".repeat(995) + "in r7", 1);
        CHECK.actsDue("go a" + "\n".repeat(994) + "a:", 1);
        CHECK.actsDue("a:" + " ".repeat(994) + "go a", 1);
        CHECK.faultDue("set r1" + " ".repeat(993) + "x", 2, 999);
        CHECK.faultDue(" ".repeat(999) + ";", 1, 999);
        CHECK.faultDue("a".repeat(1000), 1, 0);
        CHECK.faultDue("set r1 " + "9".repeat(993), 1, 7);
        // As many TOKENS as there can be: the last is read too, and so is the end behind it.
        CHECK.actsDue("\n".repeat(996) + "stop", 1);
        CHECK.actsDue("\n".repeat(998) + "a:", 0);
        CHECK.faultDue("\n".repeat(999) + ":", 2, 999);
        CHECK.faultDue("\n".repeat(999) + "5", 2, 999);
        CHECK.faultDue("\n".repeat(999) + "a", 2, 1000);
        CHECK.faultDue("\n".repeat(998) + "in", 2, 1000);
    }

    private static void programOfNothing() {
        CHECK.edge(4, "The TAPE is the program, if it is empty too: how many acts");
        FallBench x = new FallBench();
        CHECK.due("of a new TAPE", x.program(0), 0);
        Check.program(x, 0, "stop");
        CHECK.due("behind another", x.program(0), 0);
        CHECK.due("about(10)", x.about(10), 0);
        CHECK.due("act(0, 0, 0)", x.act(0, 0, 0), -1);
        x.input();
        CHECK.due("run", x.run(0, 0), 0);
        CHECK.due("STEPS", x.ran(0), 0);
    }

    private static void programFaultStays() {
        CHECK.edge(4, "NONE: a FAULT (it stays)");
        String[] faults = {"set r5 1\n;", "set r5 1\nin", "a:set r5 1\na:", "set r5 1\ngo b"};
        for (int kind = 1; kind <= 4; kind++) {
            FallBench x = new FallBench();
            for (int s = 0; s < 3; s++) {
                Check.program(x, s, "in r1\nset r2 " + (7 + s));
            }
            CHECK.due("program", Check.program(x, 1, faults[kind - 1]), -1);
            CHECK.due("fault(0)", x.fault(0), kind);
            for (int s = 0; s < 3; s++) {
                CHECK.due("about", x.about(10 + s), 2);
                CHECK.due("kind", x.act(s, 0, 0), 0);
                CHECK.due("its register", x.act(s, 0, 1), 1);
                CHECK.due("its number", x.act(s, 1, 3), 7 + s);
            }
            x.input();
            CHECK.due("run", x.run(1, 0), 0);
            CHECK.due("r2", x.left(2), 8);
            CHECK.due("r5", x.left(5), 0);
            CHECK.due("a good one then", Check.program(x, 1, "stop"), 1);
        }
    }

    private static void programNoShelf() {
        CHECK.edge(4, "-2, and the TAPE stays: no such SHELF");
        for (int shelf : NO_SHELVES) {
            FallBench x = new FallBench();
            for (int s = 0; s < 3; s++) {
                Check.program(x, s, "out r1\nstop");
            }
            Check.lay(x, "in r6\nin r5\nin r4");
            CHECK.due("program(" + shelf + ")", x.program(shelf), -2);
            CHECK.due("about(1)", x.about(1), 17);
            for (int s = 0; s < 3; s++) {
                CHECK.due("about", x.about(10 + s), 2);
                CHECK.due("kind", x.act(s, 0, 0), 12);
            }
            CHECK.due("program(0) of the same TAPE", x.program(0), 3);
            CHECK.due("act(0, 0, 1)", x.act(0, 0, 1), 6);
            Check.lay(x, ";");
            CHECK.due("of a text with a FAULT", x.program(shelf), -2);
            CHECK.due("about(1)", x.about(1), 1);
        }
    }

    private static void lineEnds() {
        CHECK.edge(4, "An end is a byte 10, or the end of the text");
        CHECK.actsDue("stop", 1);
        CHECK.actsDue("stop\n", 1);
        CHECK.actsDue("stop\nstop", 2);
        CHECK.actsDue("\nstop\n\n\nstop\n\n", 2);
        CHECK.faultDue("stop\r", 1, 4);
        CHECK.faultDue("stop stop", 2, 5);
        CHECK.faultDue("stop in r1", 2, 5);
        CHECK.faultDue("in\nr1", 2, 2);
        CHECK.faultDue("add r1\nr2", 2, 6);
        CHECK.faultDue("set r1\n5", 2, 6);
        CHECK.faultDue("a:go\na", 2, 4);
        CHECK.faultDue("a\n:", 2, 1);
    }

    private static void lineLabels() {
        CHECK.edge(4, "line = {LABEL :} [act] end");
        CHECK.actsDue("a:", 0);
        CHECK.actsDue("a:b:c:", 0);
        CHECK.actsDue("a:b:c:stop", 1);
        CHECK.actsDue(TWENTY + "stop", 1);
        CHECK.faultDue(":", 2, 0);
        CHECK.faultDue("a", 2, 1);
        CHECK.faultDue("a::", 2, 2);
        CHECK.faultDue("a b:", 2, 2);
        CHECK.faultDue("a stop", 2, 2);
        CHECK.faultDue("stop a:", 2, 5);
        CHECK.faultDue("stop:", 2, 4);
        CHECK.faultDue("r1:", 2, 0);
        CHECK.faultDue("1:", 2, 0);
        CHECK.faultDue("a:5", 2, 2);
        CHECK.faultDue("a:r1", 2, 2);
    }

    private static void wordsOfEight() {
        CHECK.edge(4, "words (8 at most)");
        CHECK.actsDue("a:go a", 1);
        CHECK.actsDue("abcdefgh:go abcdefgh", 1);
        CHECK.actsDue("zzzzzzzz:zzzzzzz:go zzzzzzzz", 1);
        CHECK.faultDue("abcdefghi:", 1, 0);
        CHECK.faultDue("abcdefghij:", 1, 0);
        CHECK.faultDue("abcdefgh:go abcdefghi", 1, 12);
        CHECK.faultDue("stopstops", 1, 0);
        CHECK.faultDue("a:\n  abcdefghi", 1, 5);
        // Words that are alike in seven letters are two.
        CHECK.actsDue("abcdefgh:abcdefgi:bbcdefgh:go bbcdefgh", 1);
        CHECK.faultDue("abcdefgh:go abcdefgi", 4, 12);
        CHECK.faultDue("abcdefgh:go bbcdefgh", 4, 12);
        CHECK.faultDue("abcdefgh:go abcdefg", 4, 12);
        CHECK.faultDue("abcdefgh:go bcdefgh", 4, 12);
    }

    private static void wordsOfLetters() {
        CHECK.edge(4, "words (a .. z)");
        CHECK.actsDue("a:z:go z", 1);
        for (char c : new char[] {'`', '{', 'A', 'Z', '_', '\u00e4', '\u00ff'}) {
            CHECK.faultDue(c + ":", 1, 0);
            CHECK.faultDue("b" + c + ":", 1, 1);
        }
        CHECK.faultDue("Stop", 1, 0);
        CHECK.faultDue("stoP", 1, 3);
    }

    private static void labelsAreNoActs() {
        CHECK.edge(4, "LABELS are those that are no acts");
        String[] names = {"in", "set", "copy", "add", "sub", "mul", "load", "store", "less", "same", "go", "jump", "out",
            "stop"};
        String[] behind = {" r1", " r1 1", " r1 r2", " r1 r2", " r1 r2", " r1 r2", " r1 r2", " r1 r2", " r1 r2 x", " r1 r2 x",
            " x", " r1", " r1", ""};
        for (int k = 0; k < names.length; k++) {
            String name = names[k];
            CHECK.actsDue("x:" + name + behind[k], 1);
            CHECK.faultDue("go " + name, 2, 3);
            CHECK.faultDue(name + ":", 2, name.length());
            CHECK.actsDue(name + "x:go " + name + "x", 1);
            String shorter = name.substring(0, name.length() - 1);
            CHECK.actsDue(shorter + ":go " + shorter, 1);
            CHECK.actsDue("x" + name + ":go x" + name, 1);
        }
    }

    private static void registerDigits() {
        CHECK.edge(4, "R (r and a digit 0 .. 7)");
        for (int r = 0; r <= 7; r++) {
            CHECK.actsDue("in r" + r, 1);
            CHECK.actsDue("add r" + r + " r" + (7 - r), 1);
        }
        for (String no : new String[] {"r8", "r9", "r", "r/", "r:", "r 1", "s1", "q1", "1", "-1", ":"}) {
            CHECK.faultDue("in " + no, 2, 3);
            CHECK.faultDue("add r1 " + no, 2, 7);
        }
        CHECK.faultDue("in R1", 1, 3);
    }

    private static void registerAlone() {
        CHECK.edge(4, "R (no letter or digit behind it)");
        for (char c : new char[] {'a', 'z', 'r', '0', '7', '9'}) {
            CHECK.faultDue("in r1" + c, 2, 3);
            CHECK.faultDue("copy r1 r2" + c, 2, 8);
        }
        CHECK.actsDue("in r1", 1);
        CHECK.actsDue("in r1\n", 1);
        CHECK.actsDue("in r1 ", 1);
        CHECK.actsDue("set r1-5", 1);
        CHECK.faultDue("in r1:", 2, 5);
        CHECK.faultDue("in r1/", 1, 5);
        CHECK.faultDue("in r1{", 1, 5);
        CHECK.faultDue("in r1`", 1, 5);
        // What is no R is a word of one letter and what comes behind.
        CHECK.faultDue("go r1", 2, 3);
        CHECK.faultDue("go r8", 2, 4);
        CHECK.faultDue("go r12", 2, 4);
        CHECK.faultDue("go r1a", 1, 4);
        CHECK.faultDue("r8:", 2, 1);
    }

    private static void numberDigits() {
        CHECK.edge(4, "N (1 to 6 digits)");
        CHECK.actsDue("set r1 0", 1);
        CHECK.actsDue("set r1 9", 1);
        CHECK.actsDue("set r1 999999", 1);
        CHECK.actsDue("set r1 000000", 1);
        CHECK.actsDue("set r1 -999999", 1);
        CHECK.faultDue("set r1 1000000", 1, 7);
        CHECK.faultDue("set r1 0000000", 1, 7);
        CHECK.faultDue("set r1 -1000000", 1, 7);
        CHECK.faultDue("set r1 -0000001", 1, 7);
        CHECK.faultDue("set r1 /", 1, 7);
        CHECK.faultDue("set r1 :", 2, 7);
        CHECK.faultDue("set r1 ", 2, 7);
        CHECK.faultDue("1234567", 1, 0);
        CHECK.faultDue("123456", 2, 0);
    }

    private static void numberMinus() {
        CHECK.edge(4, "N (- directly ahead or not)");
        CHECK.actsDue("set r1 -5", 1);
        CHECK.actsDue("set r1-5", 1);
        CHECK.actsDue("set r1 -0", 1);
        CHECK.faultDue("set r1 -", 1, 7);
        CHECK.faultDue("set r1 - 5", 1, 7);
        CHECK.faultDue("set r1 -\n5", 1, 7);
        CHECK.faultDue("set r1 --5", 1, 7);
        CHECK.faultDue("set r1 -a", 1, 7);
        CHECK.faultDue("set r1 +5", 1, 7);
        CHECK.faultDue("set r1 5-", 1, 8);
        CHECK.faultDue("set r1 5-3", 2, 8);
        CHECK.faultDue("-5", 2, 0);
    }

    private static void numberLetterBehind() {
        CHECK.edge(4, "no letter directly behind an N");
        for (char c : new char[] {'a', 'r', 'z'}) {
            CHECK.faultDue("set r1 5" + c, 1, 7);
            CHECK.faultDue("set r1 -999999" + c, 1, 7);
            CHECK.faultDue("set r1 5 " + c, 2, 9);
        }
        CHECK.faultDue("set r1 5r1", 1, 7);
        CHECK.faultDue("set r1 5:", 2, 8);
        CHECK.faultDue("set r1 5{", 1, 8);
        CHECK.faultDue("set r1 5`", 1, 8);
        CHECK.actsDue("set r1 5\nstop", 2);
    }

    private static void blanksPartOrNot() {
        CHECK.edge(4, "blanks (32) part them or not");
        CHECK.actsDue("  a  :  b:set   r1   5  \n  go  a  ", 2);
        CHECK.actsDue("a:b:go a", 1);
        CHECK.actsDue("a:set r1-5\nb:", 1);
        for (int b = 0; b <= 255; b++) {
            boolean token = b == 10 || b == ' ' || b == ':' || b >= 'a' && b <= 'z' || b >= '0' && b <= '9';
            if (!token) {
                CHECK.faultDue("stop " + (char) b, 1, 5);
                CHECK.faultDue("" + (char) b, 1, 0);
            }
        }
    }

    private static void asLongAsCanBe() {
        CHECK.edge(4, "each is as long as can be");
        CHECK.faultDue("inr1", 2, 3);
        CHECK.faultDue("gogo", 2, 4);
        CHECK.actsDue("gogo:stop", 1);
        CHECK.actsDue("instop:stopin:go stopin", 1);
        CHECK.faultDue("in rr1", 2, 3);
        CHECK.faultDue("add r1r2", 2, 4);
        CHECK.faultDue("set r1 12 3", 2, 10);
    }

    private static void acts80() {
        CHECK.edge(4, "At most 80 acts: an 81st act at it");
        String most = "stop\n".repeat(80);
        CHECK.actsDue("stop\n".repeat(79), 79);
        CHECK.actsDue(most, 80);
        CHECK.actsDue(most + "z:\n\n", 80);
        CHECK.faultDue(most + "stop", 2, 400);
        CHECK.faultDue(most + "  in r1", 2, 402);
        CHECK.faultDue(most + "a: in ;", 2, 403);
        CHECK.faultDue(most + "go nowhere", 2, 400);
        CHECK.faultDue(most + ";", 1, 400);
    }

    private static void labels20() {
        CHECK.edge(4, "At most 20 LABELS: a 21st LABEL at it");
        CHECK.actsDue(TWENTY, 0);
        CHECK.actsDue(TWENTY + "stop\ngo a\ngo t", 3);
        CHECK.faultDue(TWENTY + "u:", 2, 40);
        CHECK.faultDue(TWENTY + "\n u:stop", 2, 42);
        CHECK.faultDue(TWENTY + "u ;", 2, 40);
        // LABELS are counted where they are told, not where an act goes to them.
        CHECK.actsDue(TWENTY.replace(":", ":go a\n"), 20);
        CHECK.faultDue(TWENTY + "go u", 4, 43);
    }

    private static void faultOfNone() {
        CHECK.edge(5, "what 0: its FAULT (0), 1: its place (NONE)");
        FallBench x = new FallBench();
        CHECK.due("new fault(0)", x.fault(0), 0);
        CHECK.due("new fault(1)", x.fault(1), -1);
        Check.program(x, 0, "stop");
        CHECK.due("fault(0)", x.fault(0), 0);
        CHECK.due("fault(1)", x.fault(1), -1);
        Check.program(x, 0, ";");
        CHECK.due("fault(0) of one", x.fault(0), 1);
        CHECK.due("fault(1) of one", x.fault(1), 0);
        x.program(0);
        CHECK.due("fault(0) of an empty text", x.fault(0), 0);
        CHECK.due("fault(1) of an empty text", x.fault(1), -1);
    }

    private static void faultOfTheLatest() {
        CHECK.edge(5, "Of the latest program() that was not -2");
        FallBench x = new FallBench();
        Check.program(x, 0, "a:\na:");
        Check.program(x, 2, "in r1\ngo b");
        CHECK.due("fault(0)", x.fault(0), 4);
        CHECK.due("fault(1)", x.fault(1), 9);
        Check.lay(x, ";");
        for (int shelf : NO_SHELVES) {
            x.program(shelf);
            CHECK.due("fault(0) behind program(" + shelf + ")", x.fault(0), 4);
            CHECK.due("fault(1) behind program(" + shelf + ")", x.fault(1), 9);
        }
        x.end(0);
        x.program(1);
        CHECK.due("fault(0) behind a good one", x.fault(0), 0);
        CHECK.due("fault(1) behind a good one", x.fault(1), -1);
        Check.lay(x, ";");
        x.program(3);
        CHECK.due("fault(0) behind a good one and -2", x.fault(0), 0);
        CHECK.due("fault(1) behind a good one and -2", x.fault(1), -1);
    }

    private static void faultAtTheEnd() {
        CHECK.edge(5, "place (bytes from 0; the end: the text's length)");
        CHECK.faultDue(";", 1, 0);
        CHECK.faultDue("a", 2, 1);
        CHECK.faultDue("in", 2, 2);
        CHECK.faultDue("in   ", 2, 5);
        CHECK.faultDue("copy r1", 2, 7);
        CHECK.faultDue("less r1 r2", 2, 10);
        CHECK.faultDue("stop\ngo ", 2, 8);
        CHECK.faultDue("in" + " ".repeat(998), 2, 1000);
        CHECK.faultDue(" ".repeat(999) + "a", 2, 1000);
    }

    private static void faultFirstByPlace() {
        CHECK.edge(5, "FAULTS, the first by its place");
        CHECK.faultDue("in 5;", 2, 3);
        CHECK.faultDue("; in", 1, 0);
        CHECK.faultDue("a:a:;", 3, 2);
        CHECK.faultDue("a:a:in", 3, 2);
        CHECK.faultDue("a:;a:", 1, 2);
        CHECK.faultDue("a:in\na:", 2, 4);
        CHECK.faultDue("5;", 2, 0);
        CHECK.faultDue("in ;", 1, 3);
    }

    private static void faultAtOnePlace() {
        CHECK.edge(5, "at one place the least");
        // A 21st LABEL that was told already is a FAULT 2 and a FAULT 3.
        CHECK.faultDue(TWENTY + "a:", 2, 40);
        CHECK.faultDue(TWENTY + "t:stop", 2, 40);
        CHECK.faultDue(TWENTY.substring(2) + "t:", 3, 38);
        // What is no TOKEN can't stand there either.
        CHECK.faultDue("in abcdefghi", 1, 3);
        CHECK.faultDue("stop 5a", 1, 5);
    }

    private static void faultToldAlready() {
        CHECK.edge(5, "3 a LABEL told already");
        CHECK.faultDue("a:a:", 3, 2);
        CHECK.faultDue("a:\nb:\nc: b:", 3, 9);
        CHECK.faultDue("abcdefgh:stop\nabcdefgh:stop", 3, 14);
        CHECK.actsDue("a:aa:aaa:b:ab:ba:", 0);
        CHECK.actsDue("go a\ngo a\na:go a", 3);
        FallBench x = new FallBench();
        CHECK.due("told in one text", Check.program(x, 0, "a:"), 0);
        CHECK.due("told anew in the next", Check.program(x, 0, "a:"), 0);
    }

    private static void faultNotThere() {
        CHECK.edge(5, "and if there is none of these the first by place: 4 a LABEL that is not there");
        CHECK.faultDue("go a", 4, 3);
        CHECK.faultDue("less r1 r2 a", 4, 11);
        CHECK.faultDue("same r1 r2 a", 4, 11);
        CHECK.faultDue("a:go b\nsame r1 r2 c", 4, 5);
        CHECK.faultDue("a:go a\nsame r1 r2 c\ngo b", 4, 18);
        CHECK.faultDue("go b\n;", 1, 5);
        CHECK.faultDue("go b\nin", 2, 7);
        CHECK.faultDue("go b\na:a:", 3, 7);
        CHECK.actsDue("go b\nb:", 1);
        FallBench x = new FallBench();
        CHECK.due("a LABEL is there", Check.program(x, 0, "a:go a"), 1);
        CHECK.due("and is not in the next text", Check.program(x, 0, "go a"), -1);
        CHECK.due("fault(0)", x.fault(0), 4);
    }

    private static void faultAnother() {
        CHECK.edge(5, "NONE for another what");
        FallBench x = new FallBench();
        Check.program(x, 0, "in r1;");
        for (int what : new int[] {-1, -2, 2, 3, 4, 10, LEAST, MOST}) {
            CHECK.due("fault(" + what + ")", x.fault(what), -1);
        }
    }

    private static void actRegisters() {
        CHECK.edge(6, "1: its first R (NONE), 2: its second (NONE)");
        FallBench x = new FallBench();
        Check.program(x, 2, "in r7\nset r6 5\ncopy r0 r7\nless r7 r0 a\nsame r3 r3 a\ngo a\njump r5\nout r4\na:stop");
        int[] firsts = {7, 6, 0, 7, 3, -1, 5, 4, -1};
        int[] seconds = {-1, -1, 7, 0, 3, -1, -1, -1, -1};
        for (int k = 0; k < firsts.length; k++) {
            CHECK.due("act(2, " + k + ", 1)", x.act(2, k, 1), firsts[k]);
            CHECK.due("act(2, " + k + ", 2)", x.act(2, k, 2), seconds[k]);
        }
        // A shorter act where a longer one stood has nothing of it.
        Check.program(x, 2, "stop");
        Check.program(x, 2, "stop");
        CHECK.due("act(2, 0, 1)", x.act(2, 0, 1), -1);
        CHECK.due("act(2, 0, 2)", x.act(2, 0, 2), -1);
    }

    private static void actNumber() {
        CHECK.edge(6, "3: N (0 without)");
        FallBench x = new FallBench();
        int[] numbers = {0, 1, -1, 9, 10, 999999, -999999, 100000, -100000};
        StringBuilder text = new StringBuilder();
        for (int n : numbers) {
            text.append("set r1 ").append(n).append("\nout r1\n");
        }
        CHECK.due("program", Check.program(x, 0, text.toString()), 18);
        for (int k = 0; k < numbers.length; k++) {
            CHECK.due("of set", x.act(0, 2 * k, 3), numbers[k]);
            CHECK.due("of out", x.act(0, 2 * k + 1, 3), 0);
        }
        Check.program(x, 0, "set r1 000007\nset r1 -0\nset r1 -000007\nset r1 010");
        CHECK.due("000007", x.act(0, 0, 3), 7);
        CHECK.due("-0", x.act(0, 1, 3), 0);
        CHECK.due("-000007", x.act(0, 2, 3), -7);
        CHECK.due("010", x.act(0, 3, 3), 10);
    }

    private static void actGoesTo() {
        CHECK.edge(6, "3: the act it goes to (how many acts there are, at the end)");
        FallBench x = new FallBench();
        Check.program(x, 0, "a:\n b:go a\ngo b\nless r1 r2 c\nc:same r1 r2 d\n\ngo e\nd: e:");
        int[] want = {0, 0, 3, 5, 5};
        for (int k = 0; k < want.length; k++) {
            CHECK.due("act(0, " + k + ", 3)", x.act(0, k, 3), want[k]);
        }
        Check.program(x, 0, "go z\n" + "stop\n".repeat(78) + "y:go y\nz:");
        CHECK.due("to the end of 80", x.act(0, 0, 3), 80);
        CHECK.due("to the last of 80", x.act(0, 79, 3), 79);
    }

    private static void actNoneSuch() {
        CHECK.edge(6, "NONE if there is none such (of what 3: -1000000)");
        FallBench x = new FallBench();
        Check.program(x, 0, "stop\n".repeat(80));
        Check.program(x, 0, "set r1 5\nset r2 6");
        int[] acts = {-1, -2, 2, 3, 79, 80, 81, LEAST, MOST};
        for (int what = -2; what <= 6; what++) {
            int none = what == 3 ? -1000000 : -1;
            for (int k : acts) {
                CHECK.due("act(0, " + k + ", " + what + ")", x.act(0, k, what), none);
            }
            for (int shelf : NO_SHELVES) {
                CHECK.due("act(" + shelf + ", 0, " + what + ")", x.act(shelf, 0, what), none);
            }
            CHECK.due("of an empty SHELF", x.act(1, 0, what), none);
        }
        for (int what : new int[] {-1, 4, 5, LEAST, MOST}) {
            CHECK.due("act(0, 0, " + what + ")", x.act(0, 0, what), -1);
        }
    }
}
