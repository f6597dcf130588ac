import java.util.ArrayList;
import java.util.HashMap;
import java.util.List;
import java.util.Map;
import java.util.Set;
import java.util.TreeSet;
import java.util.regex.Matcher;
import java.util.regex.Pattern;

/** The document's terms written a second time, in the plainest way and without any shortcut, to hold the class against. */
final class Model {
    record Act(String name, int first, int second, int number) { }
    record Token(char kind, String text, int place) { }
    record Value(int value, int maker, Set<Integer> bytes) { }
    record Parsed(List<Act> acts, int fault, int place) { }

    static final List<String> NAMES = List.of("in", "set", "copy", "add", "sub", "mul", "load", "store", "less", "same",
            "go", "jump", "out", "stop");
    private static final Map<String, String> SHAPES = Map.ofEntries(Map.entry("in", "R"), Map.entry("set", "RN"),
            Map.entry("copy", "RR"), Map.entry("add", "RR"), Map.entry("sub", "RR"), Map.entry("mul", "RR"),
            Map.entry("load", "RR"), Map.entry("store", "RR"), Map.entry("less", "RRL"), Map.entry("same", "RRL"),
            Map.entry("go", "L"), Map.entry("jump", "R"), Map.entry("out", "R"), Map.entry("stop", ""));
    private static final Pattern TOKEN = Pattern.compile("(r[0-7](?![a-z0-9]))|([a-z]{1,8}+(?![a-z]))"
            + "|(-?[0-9]{1,6}+(?![0-9a-z]))|(:)|(\n)");

    private Model() { }

    /** R register, A act, L LABEL, N number, ':', '\n', E the end, '?' no TOKEN. */
    static List<Token> tokens(String text) {
        List<Token> list = new ArrayList<>();
        Matcher m = TOKEN.matcher(text);
        int at = 0;
        while (true) {
            while (at < text.length() && text.charAt(at) == ' ') {
                at++;
            }
            if (at == text.length()) {
                list.add(new Token('E', "", at));
                return list;
            }
            m.region(at, text.length());
            m.useTransparentBounds(true);
            if (!m.lookingAt()) {
                list.add(new Token('?', "", at));
                return list;
            }
            char kind = m.group(1) != null ? 'R' : m.group(2) != null ? (NAMES.contains(m.group()) ? 'A' : 'L')
                    : m.group(3) != null ? 'N' : m.group().charAt(0);
            list.add(new Token(kind, m.group(), at));
            at = m.end();
        }
    }

    static Parsed parse(String text) {
        List<Token> tokens = tokens(text);
        Map<String, Integer> labels = new HashMap<>();
        List<Act> acts = new ArrayList<>();
        List<Token> wanted = new ArrayList<>();
        String awaited = "LA\nE";
        String shape = "";
        List<Token> parts = new ArrayList<>();
        for (Token t : tokens) {
            boolean starts = awaited.indexOf('A') >= 0;
            if (t.kind() == '?') {
                return new Parsed(null, 1, t.place());
            }
            if (awaited.indexOf(t.kind()) < 0 || starts && t.kind() == 'A' && acts.size() == 80
                    || starts && t.kind() == 'L' && labels.size() == 20) {
                return new Parsed(null, 2, t.place());
            }
            if (starts && t.kind() == 'L') {
                if (labels.put(t.text(), acts.size()) != null) {
                    return new Parsed(null, 3, t.place());
                }
                awaited = ":";
            } else if (t.kind() == ':' || t.kind() == '\n') {
                awaited = "LA\nE";
            } else if (t.kind() != 'E') {
                parts.add(t);
                shape = starts ? SHAPES.get(t.text()) : shape.substring(1);
                awaited = shape.isEmpty() ? "\nE" : shape.substring(0, 1);
                if (shape.isEmpty()) {
                    acts.add(made(parts));
                    wanted.add(parts.get(parts.size() - 1));
                    parts = new ArrayList<>();
                }
            }
        }
        for (int k = 0; k < acts.size(); k++) {
            Token w = wanted.get(k);
            if (w.kind() == 'L') {
                if (!labels.containsKey(w.text())) {
                    return new Parsed(null, 4, w.place());
                }
                Act a = acts.get(k);
                acts.set(k, new Act(a.name(), a.first(), a.second(), labels.get(w.text())));
            }
        }
        return new Parsed(acts, 0, -1);
    }

    private static Act made(List<Token> parts) {
        int[] rs = {-1, -1};
        int count = 0;
        int number = 0;
        for (Token t : parts) {
            if (t.kind() == 'R') {
                rs[count++] = t.text().charAt(1) - '0';
            } else if (t.kind() == 'N') {
                number = Integer.parseInt(t.text());
            }
        }
        return new Act(parts.get(0).text(), rs[0], rs[1], number);
    }

    static int bits(Set<Integer> bytes) {
        int b = 0;
        for (int i : bytes) {
            b |= 1 << i;
        }
        return b;
    }

    private static Set<Integer> both(Value a, Value b) {
        Set<Integer> s = new TreeSet<>(a.bytes());
        s.addAll(b.bytes());
        return s;
    }

    static final class Ran {
        final List<Value> cells = new ArrayList<>();
        final List<Integer> told = new ArrayList<>();
        int steps;
        int read;
        int end = -1;
        int act = -1;
        Value wrong = new Value(0, -1, Set.of());

        List<Integer> cause() {
            return end >= 1 && end <= 3 ? List.of(end, act, wrong.maker()) : List.of(end);
        }

        void endBadly(int how, int where, Value v) {
            end = how;
            act = where;
            wrong = v;
        }
    }

    static Ran run(List<Act> acts, List<Integer> input) {
        Ran x = new Ran();
        for (int i = 0; i < 40; i++) {
            x.cells.add(new Value(0, -1, Set.of()));
        }
        int at = 0;
        while (x.end < 0) {
            if (at == acts.size()) {
                x.end = 0;
            } else if (x.steps == 1000) {
                x.end = 4;
            } else {
                at = step(x, acts, at, input);
            }
        }
        return x;
    }

    private static int step(Ran x, List<Act> acts, int at, List<Integer> input) {
        Act a = acts.get(at);
        Value r = a.first() < 0 ? null : x.cells.get(a.first());
        Value s = a.second() < 0 ? null : x.cells.get(a.second());
        int next = at + 1;
        switch (a.name()) {
            case "in" -> {
                boolean there = x.read < input.size();
                x.cells.set(a.first(), new Value(there ? input.get(x.read) : -1, at, there ? Set.of(x.read) : Set.of()));
                x.read += there ? 1 : 0;
            }
            case "set" -> x.cells.set(a.first(), new Value(a.number(), at, Set.of()));
            case "copy" -> x.cells.set(a.first(), s);
            case "add" -> x.cells.set(a.first(), new Value(r.value() + s.value(), at, both(r, s)));
            case "sub" -> x.cells.set(a.first(), new Value(r.value() - s.value(), at, both(r, s)));
            case "mul" -> x.cells.set(a.first(), new Value(r.value() * s.value(), at, both(r, s)));
            case "load" -> {
                if (s.value() < 0 || s.value() > 31) {
                    x.endBadly(1, at, s);
                    return at;
                }
                Value p = x.cells.get(8 + s.value());
                x.cells.set(a.first(), new Value(p.value(), p.maker(), both(p, s)));
            }
            case "store" -> {
                if (r.value() < 0 || r.value() > 31) {
                    x.endBadly(2, at, r);
                    return at;
                }
                x.cells.set(8 + r.value(), new Value(s.value(), s.maker(), both(r, s)));
            }
            case "less" -> next = r.value() < s.value() ? a.number() : next;
            case "same" -> next = r.value() == s.value() ? a.number() : next;
            case "go" -> next = a.number();
            case "jump" -> {
                if (r.value() < 0 || r.value() >= acts.size()) {
                    x.endBadly(3, at, r);
                    return at;
                }
                next = r.value();
            }
            case "out" -> x.told.add(r.value());
            default -> x.end = 0;
        }
        x.steps++;
        return next;
    }

    static List<List<Integer>> heaps(List<Act> acts, List<List<Integer>> inputs) {
        Map<List<Integer>, List<Integer>> byCause = new java.util.LinkedHashMap<>();
        for (int i = 0; i < inputs.size(); i++) {
            Ran x = run(acts, inputs.get(i));
            if (x.end != 0) {
                byCause.computeIfAbsent(x.cause(), c -> new ArrayList<>()).add(i);
            }
        }
        return new ArrayList<>(byCause.values());
    }

    static List<Integer> small(List<Act> acts, List<Integer> input) {
        List<Integer> cause = run(acts, input).cause();
        List<Integer> now = new ArrayList<>(input);
        boolean out = true;
        while (out) {
            out = false;
            for (int k = 0; k < now.size();) {
                List<Integer> less = new ArrayList<>(now);
                less.remove(k);
                if (run(acts, less).cause().equals(cause)) {
                    now = less;
                    out = true;
                } else {
                    k++;
                }
            }
        }
        return now;
    }

    static List<Integer> changed(List<Integer> input, int k, int value) {
        List<Integer> list = new ArrayList<>(input);
        list.set(k, value);
        return list;
    }

    static List<Integer> low(List<Act> acts, List<Integer> small) {
        List<Integer> cause = run(acts, small).cause();
        List<Integer> now = small;
        for (int k = 0; k < small.size(); k++) {
            for (int v = 0; v < 256; v++) {
                if (run(acts, changed(now, k, v)).cause().equals(cause)) {
                    now = changed(now, k, v);
                    break;
                }
            }
        }
        return now;
    }

    static int ruled(List<Act> acts, List<Integer> input) {
        Ran base = run(acts, input);
        int b = 0;
        for (int k = 0; k < input.size() && base.act >= 0; k++) {
            for (int v = 0; v < 256; v++) {
                Ran x = run(acts, changed(input, k, v));
                if (x.end == base.end && x.act == base.act && x.wrong.value() != base.wrong.value()) {
                    b |= 1 << k;
                }
            }
        }
        return b;
    }

    static int[] nearest(List<Act> acts, List<Integer> input) {
        if (run(acts, input).end != 0) {
            for (int k = 0; k < input.size(); k++) {
                for (int v = 0; v < 256; v++) {
                    if (run(acts, changed(input, k, v)).end == 0) {
                        return new int[] {k, v};
                    }
                }
            }
        }
        return new int[] {-1, -1};
    }

    static int held(List<Act> first, List<Act> second, List<Integer> input) {
        Ran a = run(first, input);
        Ran b = run(second, input);
        if (a.end == 0 && b.end == 0) {
            boolean same = a.told.size() == b.told.size() && a.told.stream().limit(40).toList()
                    .equals(b.told.stream().limit(40).toList());
            return same ? 0 : 1;
        }
        return b.end == 0 ? 2 : a.end == 0 ? 3 : a.end == b.end ? 4 : 5;
    }
}
