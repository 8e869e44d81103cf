import java.nio.charset.StandardCharsets;
import java.util.ArrayDeque;
import java.util.ArrayList;
import java.util.Arrays;
import java.util.HashMap;
import java.util.HashSet;
import java.util.LinkedHashMap;
import java.util.List;
import java.util.Map;
import java.util.Set;
import java.util.TreeMap;
import java.util.TreeSet;
import java.util.regex.Matcher;
import java.util.regex.Pattern;

/** The document again, slow and with the whole Java library, so that SpillForge can be held against it. */
final class Oracle {
    /** One ROW or END; names are "v3" and "s2", so that registers and slots cannot be mixed up. */
    static final class Line {
        String set;
        String kind;
        List<String> uses = new ArrayList<>();
        List<Integer> goals = new ArrayList<>();

        Line(String set, String kind, String... uses) {
            this.set = set;
            this.kind = kind;
            this.uses.addAll(Arrays.asList(uses));
        }

        Line copy() {
            Line c = new Line(set, kind, uses.toArray(new String[0]));
            c.goals.addAll(goals);
            return c;
        }

        boolean isCopyOfRegister() {
            return kind.equals("copy") && isRegister(uses.get(0));
        }

        String print() {
            switch (kind) {
                case "jump": return "jump b" + goals.get(0);
                case "if": return "if " + uses.get(0) + " b" + goals.get(0) + " b" + goals.get(1);
                case "ret": return "ret " + uses.get(0);
                case "show": return "show " + uses.get(0);
                case "in": return set + " = in";
                case "copy": return printName(set) + " = " + printName(uses.get(0));
                default: return set + " = " + uses.get(0) + " " + kind + " " + uses.get(1);
            }
        }

        private static String printName(String name) {
            return name.startsWith("s") ? "slot " + name.substring(1) : name;
        }
    }

    static final class Sign {
        String kind;
        String text;
        int place;

        Sign(String kind, String text, int place) {
            this.kind = kind;
            this.text = text;
            this.place = place;
        }
    }

    static final class Wrong extends Exception {
        private static final long serialVersionUID = 1L;
        final int place;

        Wrong(int place) {
            super("wrong at " + place);
            this.place = place;
        }
    }

    private static final Pattern SIGN = Pattern.compile(
            "(?<register>v0*[0-9]{1,2}(?![0-9]))|(?<block>b0*[0-3]?[0-9](?![0-9]))|(?<named>[vb][0-9]+)"
            + "|(?<word>[a-z]+)|(?<number>[0-9]+)"
            + "|(?<op><<|>>|<=|==|!=|[-+*/%&|^<])|(?<mark>[:=])", Pattern.DOTALL);

    static boolean isRegister(String name) {
        return name != null && name.startsWith("v");
    }

    static boolean isTemporary(String name) {
        return number(name) >= 100;
    }

    static int number(String name) {
        return Integer.parseInt(name.substring(1));
    }

    // ---------------------------------------------------------------- texts

    int reason;
    List<List<Line>> program;

    /** As text(). */
    int read(byte[] bytes) {
        program = null;
        String text = new String(bytes, StandardCharsets.ISO_8859_1);
        List<Sign> signs = signs(text);
        List<List<Line>> blocks = new ArrayList<>();
        TreeMap<Integer, Integer> broken = new TreeMap<>();
        try {
            parse(signs, text.length(), blocks, broken);
        } catch (Wrong wrong) {
            reason = 1;
            return wrong.place;
        }
        if (!broken.isEmpty()) {
            reason = broken.firstEntry().getValue();
            return broken.firstKey();
        }
        reason = 0;
        program = blocks;
        return -1;
    }

    private static List<Sign> signs(String text) {
        List<Sign> all = new ArrayList<>();
        int at = 0;
        while (at < text.length()) {
            char c = text.charAt(at);
            if ("\t\n\r ".indexOf(c) >= 0) {
                at++;
                continue;
            }
            if (c == ';') {
                int line = text.indexOf('\n', at);
                at = line < 0 ? text.length() : line;
                continue;
            }
            String before = all.isEmpty() ? "" : all.get(all.size() - 1).kind;
            Matcher minus = Pattern.compile("-[0-9]+").matcher(text).region(at, text.length());
            if (minus.lookingAt() && !before.equals("register") && !before.equals("number")) {
                all.add(new Sign(numberKind(minus.group()), minus.group(), at));
                at = minus.end();
                continue;
            }
            Matcher m = SIGN.matcher(text).region(at, text.length());
            if (!m.lookingAt()) {
                all.add(new Sign("bad", "", at));
                return all;
            }
            all.add(new Sign(kindOf(m), m.group(), at));
            at = m.end();
        }
        return all;
    }

    private static String kindOf(Matcher m) {
        if (m.group("register") != null) {
            return "register";
        }
        if (m.group("block") != null) {
            return "block";
        }
        if (m.group("word") != null) {
            return List.of("in", "show", "if", "jump", "ret").contains(m.group()) ? m.group() : "bad";
        }
        if (m.group("number") != null) {
            return numberKind(m.group());
        }
        return m.group("op") != null ? "op" : m.group("mark") != null ? m.group() : "bad";
    }

    private static String numberKind(String digits) {
        java.math.BigInteger n = new java.math.BigInteger(digits);
        return n.bitLength() <= 31 ? "number" : "bad";
    }

    private ArrayDeque<Sign> queue;

    private void parse(List<Sign> signs, int length, List<List<Line>> blocks, TreeMap<Integer, Integer> broken)
            throws Wrong {
        queue = new ArrayDeque<>(signs);
        queue.add(new Sign("finish", "", length));
        LinkedHashMap<Integer, Integer> goals = new LinkedHashMap<>();
        Set<Integer> labels = new HashSet<>();
        int rows = 0;
        do {
            Sign label = need("block");
            if (number(label.text) != blocks.size()) {
                broken.putIfAbsent(label.place, 2);
            }
            labels.add(number(label.text));
            need(":");
            List<Line> block = new ArrayList<>();
            blocks.add(block);
            while (at("register") || at("show")) {
                rows++;
                if (rows == 161) {
                    broken.putIfAbsent(queue.peek().place, 4);
                }
                block.add(row());
            }
            block.add(ending(goals));
        } while (!at("finish"));
        for (Map.Entry<Integer, Integer> goal : goals.entrySet()) {
            if (goal.getValue() == 0 || !labels.contains(goal.getValue())) {
                broken.putIfAbsent(goal.getKey(), 3);
            }
        }
    }

    private boolean at(String kind) {
        return queue.peek().kind.equals(kind);
    }

    private Sign need(String kind) throws Wrong {
        if (!at(kind)) {
            throw new Wrong(queue.peek().place);
        }
        return queue.poll();
    }

    private String operand() throws Wrong {
        if (at("register")) {
            return "v" + number(queue.poll().text);
        }
        return Integer.toString(Integer.parseInt(need("number").text));
    }

    private Line row() throws Wrong {
        if (at("show")) {
            queue.poll();
            return new Line(null, "show", operand());
        }
        String set = "v" + number(queue.poll().text);
        need("=");
        if (at("in")) {
            queue.poll();
            return new Line(set, "in");
        }
        String left = operand();
        if (!at("op")) {
            return new Line(set, "copy", left);
        }
        return new Line(set, queue.poll().text, left, operand());
    }

    private Line ending(Map<Integer, Integer> goals) throws Wrong {
        Line line;
        if (at("jump")) {
            queue.poll();
            line = new Line(null, "jump");
            goal(line, goals);
        } else if (at("if")) {
            queue.poll();
            line = new Line(null, "if", operand());
            goal(line, goals);
            goal(line, goals);
        } else {
            need("ret");
            line = new Line(null, "ret", operand());
        }
        return line;
    }

    private void goal(Line line, Map<Integer, Integer> goals) throws Wrong {
        Sign sign = need("block");
        goals.put(sign.place, number(sign.text));
        line.goals.add(number(sign.text));
    }

    // ---------------------------------------------------------------- runs

    int ending = -1;
    int answer;
    int steps;
    int reads;
    List<Integer> shown = new ArrayList<>();

    void run(List<List<Line>> code, int fuel, int[] input) {
        Map<String, Integer> cells = new HashMap<>();
        ending = 4;
        answer = 0;
        steps = 0;
        reads = 0;
        shown = new ArrayList<>();
        int block = 0;
        int at = 0;
        while (steps < fuel) {
            steps++;
            Line line = code.get(block).get(at++);
            int left = line.uses.isEmpty() ? 0 : value(cells, line.uses.get(0));
            switch (line.kind) {
                case "jump":
                    block = line.goals.get(0);
                    at = 0;
                    break;
                case "if":
                    block = line.goals.get(left == 0 ? 1 : 0);
                    at = 0;
                    break;
                case "ret":
                    answer = left;
                    ending = 0;
                    return;
                case "show":
                    if (shown.size() == 512) {
                        ending = 5;
                        return;
                    }
                    shown.add(left);
                    break;
                case "in":
                    cells.put(line.set, reads < input.length ? input[reads++] : 0);
                    break;
                case "copy":
                    cells.put(line.set, left);
                    break;
                default:
                    int right = value(cells, line.uses.get(1));
                    if (right == 0 && (line.kind.equals("/") || line.kind.equals("%"))) {
                        ending = 1;
                        return;
                    }
                    cells.put(line.set, calculate(line.kind, left, right));
                    break;
            }
        }
    }

    private static int value(Map<String, Integer> cells, String name) {
        return isRegister(name) || name.startsWith("s") ? cells.getOrDefault(name, 0) : Integer.parseInt(name);
    }

    private static int calculate(String op, int left, int right) {
        switch (op) {
            case "+": return (int) ((long) left + right);
            case "-": return (int) ((long) left - right);
            case "*": return (int) ((long) left * right);
            case "/": return (int) ((long) left / right);
            case "%": return (int) ((long) left % right);
            case "&": return left & right;
            case "|": return left | right;
            case "^": return left ^ right;
            case "<<": return (int) ((long) left << (right & 31));
            case ">>": return (int) ((long) left >> (right & 31));
            case "<": return left < right ? 1 : 0;
            case "<=": return left <= right ? 1 : 0;
            case "==": return left == right ? 1 : 0;
            case "!=": return left != right ? 1 : 0;
            default: throw new IllegalStateException(op);
        }
    }

    // ---------------------------------------------------------------- flow

    /** Of each block the names LIVE behind each line, and as the first entry those in front of the first line. */
    static List<List<Set<String>>> live(List<List<Line>> code, String sort) {
        List<List<Set<String>>> live = new ArrayList<>();
        for (List<Line> block : code) {
            List<Set<String>> places = new ArrayList<>();
            for (int i = 0; i <= block.size(); i++) {
                places.add(new HashSet<>());
            }
            live.add(places);
        }
        boolean changes = true;
        while (changes) {
            changes = false;
            for (int b = 0; b < code.size(); b++) {
                for (int i = code.get(b).size(); i >= 0; i--) {
                    Set<String> now = new HashSet<>();
                    if (i == code.get(b).size()) {
                        for (int goal : code.get(b).get(i - 1).goals) {
                            now.addAll(live.get(goal).get(0));
                        }
                    } else {
                        Line line = code.get(b).get(i);
                        now.addAll(live.get(b).get(i + 1));
                        now.remove(line.set);
                        for (String use : line.uses) {
                            if (use.startsWith(sort)) {
                                now.add(use);
                            }
                        }
                    }
                    changes |= live.get(b).get(i).addAll(now);
                }
            }
        }
        return live;
    }

    static boolean reaches(List<List<Line>> code, int from, int to, int without) {
        if (from == without || to == without) {
            return false;
        }
        Set<Integer> seen = new HashSet<>(Set.of(from));
        ArrayDeque<Integer> open = new ArrayDeque<>(seen);
        while (!open.isEmpty()) {
            List<Line> block = code.get(open.poll());
            for (int goal : block.get(block.size() - 1).goals) {
                if (goal != without && seen.add(goal)) {
                    open.add(goal);
                }
            }
        }
        return seen.contains(to);
    }

    static int depth(List<List<Line>> code, int block) {
        int depth = 0;
        for (int h = 0; h < code.size(); h++) {
            boolean inside = false;
            for (int b = 0; b < code.size(); b++) {
                List<Line> lines = code.get(b);
                boolean isLoop = lines.get(lines.size() - 1).goals.contains(h)
                        && reaches(code, 0, b, -1) && !reaches(code, 0, b, h);
                inside |= isLoop && (block == h || reaches(code, 0, block, -1) && reaches(code, block, b, h));
            }
            depth += inside ? 1 : 0;
        }
        return Math.min(depth, 4);
    }

    // ---------------------------------------------------------------- giving out

    Map<String, Set<String>> joined;
    Map<String, Long> weight;
    List<List<Line>> given;
    int spilled;
    int merged;
    int slots;
    private int[] depths;

    static List<List<Line>> copy(List<List<Line>> code) {
        List<List<Line>> copy = new ArrayList<>();
        for (List<Line> block : code) {
            List<Line> lines = new ArrayList<>();
            for (Line line : block) {
                lines.add(line.copy());
            }
            copy.add(lines);
        }
        return copy;
    }

    List<List<Line>> firstRound() {
        List<List<Line>> code = copy(program);
        depths = new int[code.size()];
        for (int b = 0; b < depths.length; b++) {
            depths[b] = depth(code, b);
        }
        int at = 0;
        Set<String> zero = live(code, "v").get(0).get(0);
        for (int v = 0; v < 100; v++) {
            if (zero.contains("v" + v)) {
                code.get(0).add(at++, new Line("v" + v, "copy", "0"));
            }
        }
        return code;
    }

    void build(List<List<Line>> code, String sort) {
        joined = new HashMap<>();
        weight = new HashMap<>();
        List<List<Set<String>>> live = live(code, sort);
        for (int b = 0; b < code.size(); b++) {
            for (int i = 0; i < code.get(b).size(); i++) {
                Line line = code.get(b).get(i);
                List<String> names = new ArrayList<>(line.uses);
                if (line.set != null) {
                    names.add(line.set);
                }
                for (String name : names) {
                    if (name.startsWith(sort)) {
                        joined.computeIfAbsent(name, n -> new HashSet<>());
                        weight.merge(name, (long) Math.pow(10, depths[b]), Long::sum);
                    }
                }
                if (line.set == null || !line.set.startsWith(sort)) {
                    continue;
                }
                for (String other : live.get(b).get(i + 1)) {
                    if (!other.equals(line.set) && !(line.isCopyOfRegister() && line.uses.get(0).equals(other))) {
                        joined.computeIfAbsent(line.set, n -> new HashSet<>()).add(other);
                        joined.computeIfAbsent(other, n -> new HashSet<>()).add(line.set);
                    }
                }
            }
        }
    }

    int give(int k) {
        given = null;
        spilled = 0;
        merged = 0;
        slots = 0;
        int newSlot = 0;
        int[] newName = {100};
        List<List<Line>> code = firstRound();
        for (int round = 1; round <= 40; round++) {
            do {
                build(code, "v");
            } while (mergeOne(code, k));
            Map<String, Integer> colour = colours(pile(k), k);
            if (colour.size() == joined.size()) {
                rename(code, colour);
                share(code);
                given = code;
                return round;
            }
            Map<String, Integer> slotOf = new HashMap<>();
            for (String name : byNumber(joined.keySet())) {
                if (!colour.containsKey(name)) {
                    if (isTemporary(name)) {
                        return -1;
                    }
                    slotOf.put(name, newSlot++);
                    spilled++;
                }
            }
            code = spill(code, slotOf, newName);
            if (rows(code) > 4000 || newName[0] > 2000) {
                return -1;
            }
        }
        return -1;
    }

    static int rows(List<List<Line>> code) {
        int rows = 0;
        for (List<Line> block : code) {
            rows += block.size() - 1;
        }
        return rows;
    }

    private static List<String> byNumber(Set<String> names) {
        TreeSet<Integer> numbers = new TreeSet<>();
        String sort = "";
        for (String name : names) {
            numbers.add(number(name));
            sort = name.substring(0, 1);
        }
        List<String> ordered = new ArrayList<>();
        for (int n : numbers) {
            ordered.add(sort + n);
        }
        return ordered;
    }

    private boolean mergeOne(List<List<Line>> code, int k) {
        for (List<Line> block : code) {
            for (int i = 0; i < block.size(); i++) {
                Line line = block.get(i);
                if (line.isCopyOfRegister() && isRegister(line.set) && canMerge(line.set, line.uses.get(0), k)) {
                    String v = line.set;
                    String w = line.uses.get(0);
                    block.remove(i);
                    merged++;
                    int least = Math.min(number(v), number(w));
                    rename(code, Map.of("v" + Math.max(number(v), number(w)), least));
                    return true;
                }
            }
        }
        return false;
    }

    private boolean canMerge(String v, String w, int k) {
        if (v.equals(w)) {
            return true;
        }
        if (isTemporary(v) || isTemporary(w) || joined.get(v).contains(w)) {
            return false;
        }
        Set<String> together = new HashSet<>(joined.get(v));
        together.addAll(joined.get(w));
        int many = 0;
        for (String name : together) {
            int joins = joined.get(name).size();
            if (joined.get(v).contains(name) && joined.get(w).contains(name)) {
                joins--;
            }
            many += joins >= k ? 1 : 0;
        }
        return many < k;
    }

    private List<String> pile(int k) {
        List<String> left = byNumber(joined.keySet());
        List<String> pile = new ArrayList<>();
        while (!left.isEmpty()) {
            String taken = null;
            for (String name : left) {
                if (taken == null && joinedLeft(name, left) < k) {
                    taken = name;
                }
            }
            if (taken == null) {
                taken = cheapest(left);
            }
            left.remove(taken);
            pile.add(taken);
        }
        return pile;
    }

    private int joinedLeft(String name, List<String> left) {
        int n = 0;
        for (String other : left) {
            n += joined.get(name).contains(other) ? 1 : 0;
        }
        return n;
    }

    private String cheapest(List<String> left) {
        List<String> choice = new ArrayList<>(left);
        choice.removeIf(Oracle::isTemporary);
        if (choice.isEmpty()) {
            choice = left;
        }
        String best = choice.get(0);
        for (String name : choice) {
            if (weight.get(name) * joinedLeft(best, left) < weight.get(best) * joinedLeft(name, left)) {
                best = name;
            }
        }
        return best;
    }

    private Map<String, Integer> colours(List<String> pile, int k) {
        Map<String, Integer> colour = new HashMap<>();
        for (int at = pile.size() - 1; at >= 0; at--) {
            Set<Integer> taken = new HashSet<>();
            for (String other : joined.get(pile.get(at))) {
                taken.add(colour.get(other));
            }
            int c = 0;
            while (taken.contains(c)) {
                c++;
            }
            if (c < k) {
                colour.put(pile.get(at), c);
            }
        }
        return colour;
    }

    private static void rename(List<List<Line>> code, Map<String, Integer> names) {
        for (List<Line> block : code) {
            for (Line line : block) {
                line.set = renamed(line.set, names);
                for (int u = 0; u < line.uses.size(); u++) {
                    line.uses.set(u, renamed(line.uses.get(u), names));
                }
            }
        }
    }

    private static String renamed(String name, Map<String, Integer> names) {
        return name != null && names.containsKey(name) ? name.substring(0, 1) + names.get(name) : name;
    }

    private static List<List<Line>> spill(List<List<Line>> code, Map<String, Integer> slotOf, int[] newName) {
        List<List<Line>> spilt = new ArrayList<>();
        for (List<Line> block : code) {
            List<Line> lines = new ArrayList<>();
            for (Line old : block) {
                Line line = old.copy();
                Map<String, String> loads = new HashMap<>();
                for (int u = 0; u < line.uses.size(); u++) {
                    String use = line.uses.get(u);
                    if (slotOf.containsKey(use)) {
                        if (!loads.containsKey(use)) {
                            loads.put(use, "v" + newName[0]++);
                            lines.add(new Line(loads.get(use), "copy", "s" + slotOf.get(use)));
                        }
                        line.uses.set(u, loads.get(use));
                    }
                }
                lines.add(line);
                if (line.set != null && slotOf.containsKey(line.set)) {
                    String slot = "s" + slotOf.get(line.set);
                    line.set = "v" + newName[0]++;
                    lines.add(new Line(slot, "copy", line.set));
                }
            }
            spilt.add(lines);
        }
        return spilt;
    }

    private void share(List<List<Line>> code) {
        build(code, "s");
        Map<String, Integer> shared = new HashMap<>();
        for (String slot : byNumber(joined.keySet())) {
            Set<Integer> taken = new HashSet<>();
            for (String other : joined.get(slot)) {
                taken.add(shared.get(other));
            }
            int s = 0;
            while (taken.contains(s)) {
                s++;
            }
            shared.put(slot, s);
        }
        rename(code, shared);
        slots = new HashSet<>(shared.values()).size();
    }

    // ---------------------------------------------------------------- listings and counts

    static String listing(List<List<Line>> code) {
        StringBuilder all = new StringBuilder();
        for (int b = 0; b < code.size(); b++) {
            all.append("b").append(b).append(":\n");
            for (Line line : code.get(b)) {
                all.append(line.print()).append('\n');
            }
        }
        return all.toString();
    }

    static int registers(List<List<Line>> code) {
        Set<String> names = new HashSet<>();
        for (List<Line> block : code) {
            for (Line line : block) {
                names.add(line.set);
                names.addAll(line.uses);
            }
        }
        names.removeIf(name -> !isRegister(name));
        return names.size();
    }

    static int copiesWithSlot(List<List<Line>> code, boolean loads) {
        int n = 0;
        for (List<Line> block : code) {
            for (Line line : block) {
                String slotSide = !line.kind.equals("copy") ? "" : loads ? line.uses.get(0) : line.set;
                n += slotSide.startsWith("s") ? 1 : 0;
            }
        }
        return n;
    }
}
