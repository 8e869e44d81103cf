import java.util.Random;

/** Holds SpillForge against the oracle on programs that are made by chance, always the same ones. */
public final class TwinTest {
    private static final String[] OPS = {"+", "-", "*", "/", "%", "&", "|", "^", "<<", ">>", "<", "<=", "==", "!="};

    private static final int[] INPUT = {7, 3, -1, 1000, Integer.MIN_VALUE, 5};

    private final Random random;

    private TwinTest(long seed) {
        random = new Random(seed);
    }

    public static void main(String[] args) {
        int runs = args.length > 0 ? Integer.parseInt(args[0]) : 600;
        for (int seed = 0; seed < runs; seed++) {
            TwinTest one = new TwinTest(seed);
            one.program("program " + seed, one.makeProgram(), 1 + one.random.nextInt(32));
        }
        for (int seed = 0; seed < runs / 20; seed++) {
            TwinTest one = new TwinTest(seed);
            one.program("crowd " + seed, one.makeCrowd(), 32 - seed % 2);
        }
        for (int seed = 0; seed < 20 * runs; seed++) {
            new TwinTest(-1 - seed).brokenText("broken text " + seed);
        }
        Forge.close("TwinTest");
    }

    /** Each part has an object of its own, since an object is used for few calls. */
    private void program(String name, String text, int many) {
        Oracle oracle = new Oracle();
        oracle.read(Forge.bytes(text));
        listing(name + " list(false)", text, 0, Oracle.listing(oracle.program));
        registers(name, Forge.of(text), oracle);
        SpillForge x = Forge.of(text);
        blocks(name, x, oracle);
        int fuel = 1 + random.nextInt(3000);
        String told = runs(name + " as read", x, oracle, false, fuel);
        int[] some = {1, 2, 3, 4, 5, 8, many};
        for (int k : some) {
            given(name + " give(" + k + ")", text, k, oracle, fuel, told);
        }
    }

    private void given(String call, String text, int k, Oracle oracle, int fuel, String told) {
        SpillForge x = Forge.of(text);
        int rounds = oracle.give(k);
        Forge.due(call, x.give(k), rounds);
        counts(call, x, oracle);
        if (rounds == -1) {
            Forge.throwsDue(call + " list", IllegalStateException.class, () -> x.list(true));
            return;
        }
        runs(call, x, oracle, true, fuel);
        sameWithEnoughFuel(call, x, told);
        listing(call + " list(true)", text, k, Oracle.listing(oracle.given));
    }

    /** The listing as it was given out with k registers, or as it was read, if k is 0. */
    private static void listing(String call, String text, int k, String want) {
        int slice = 2000;
        for (int from = 0; from < want.length(); from += slice) {
            SpillForge x = Forge.of(text);
            if (k != 0) {
                x.give(k);
            }
            Forge.due(call, Forge.answer(() -> x.list(k != 0)), want.length());
            int to = Math.min(from + slice, want.length());
            Forge.due(call + " from " + from, Forge.result(x, from, to), want.substring(from, to));
        }
    }

    private void registers(String name, SpillForge x, Oracle oracle) {
        oracle.build(oracle.firstRound(), "v");
        for (int v = -1; v <= 100; v++) {
            int register = v;
            String call = name + " look(" + v + ", ";
            if (oracle.joined.containsKey("v" + v)) {
                Forge.due(call + "0)", x.look(v, 0), oracle.weight.get("v" + v));
                Forge.due(call + "1)", x.look(v, 1), oracle.joined.get("v" + v).size());
            } else {
                Forge.throwsDue(call + "0)", java.util.NoSuchElementException.class, () -> x.look(register, 0));
                Forge.throwsDue(call + "1)", java.util.NoSuchElementException.class, () -> x.look(register, 1));
            }
        }
    }

    private void blocks(String name, SpillForge x, Oracle oracle) {
        for (int b = 0; b < oracle.program.size(); b++) {
            Forge.due(name + " look(" + b + ", 2)", x.look(b, 2),
                    Oracle.live(oracle.program, "v").get(b).get(0).size());
            Forge.due(name + " look(" + b + ", 3)", x.look(b, 3), Oracle.depth(oracle.program, b));
        }
    }

    private void counts(String call, SpillForge x, Oracle oracle) {
        boolean none = oracle.given == null;
        int[] want = {
            oracle.program.size(), Oracle.rows(oracle.program), 0, 0, 0,
            none ? 0 : Oracle.rows(oracle.given), none ? 0 : Oracle.registers(oracle.given),
            none ? 0 : oracle.slots, none ? 0 : oracle.spilled, none ? 0 : oracle.merged,
            none ? 0 : Oracle.copiesWithSlot(oracle.given, true),
            none ? 0 : Oracle.copiesWithSlot(oracle.given, false),
        };
        for (int what = 0; what < want.length; what++) {
            Forge.due(call + " count(" + what + ")", x.count(what), want[what]);
        }
    }

    private String runs(String call, SpillForge x, Oracle oracle, boolean given, int fuel) {
        Forge.input(x, INPUT);
        oracle.run(given ? oracle.given : oracle.program, fuel, INPUT);
        Forge.due(call + " run(" + given + ", " + fuel + ")", x.run(given, fuel), oracle.ending);
        StringBuilder want = new StringBuilder();
        want.append(oracle.answer).append(' ').append(oracle.shown.size()).append(' ').append(oracle.steps)
                .append(' ').append(oracle.reads).append(' ').append(oracle.ending);
        for (int i = 0; i < oracle.shown.size(); i++) {
            if (Forge.isAsked(i, oracle.shown.size())) {
                want.append(' ').append(oracle.shown.get(i));
            }
        }
        Forge.due(call + " told", Forge.told(x), want);
        return want.toString();
    }

    private static void sameWithEnoughFuel(String call, SpillForge x, String told) {
        String[] before = told.split(" ");
        if (before[4].equals("4")) {
            return;
        }
        x.run(true, 100000);
        String[] now = Forge.told(x).split(" ");
        before[2] = "";
        now[2] = "";
        Forge.due(call + " tells the same", String.join(" ", now), String.join(" ", before));
    }

    // Signs in any order, mostly as the grammar has them, so that each rule breaks now and then.
    private void brokenText(String name) {
        StringBuilder text = new StringBuilder(random.nextInt(3) == 0 ? makeProgram() : makeSmall());
        for (int n = random.nextInt(4); n > 0 && text.length() > 0; n--) {
            int at = random.nextInt(text.length());
            int change = random.nextInt(4);
            if (change == 0) {
                text.deleteCharAt(at);
            } else if (change == 1) {
                text.insert(at, aByte());
            } else if (change == 2) {
                text.setCharAt(at, aByte());
            } else {
                text.setLength(at);
            }
        }
        SpillForge x = new SpillForge();
        Oracle oracle = new Oracle();
        Forge.due(name + " text " + text, Forge.read(x, text.toString()), oracle.read(Forge.bytes(text.toString())));
        Forge.due(name + " reason " + text, x.count(2), oracle.reason);
        if (oracle.reason == 0) {
            Forge.due(name + " list " + text, Forge.list(x, false), Oracle.listing(oracle.program));
        }
    }

    private char aByte() {
        String usual = "vb0123456789 -+<>=!:;\n\t\r.ijrs/%&|^*{\u00e9";
        return usual.charAt(random.nextInt(usual.length()));
    }

    private String makeSmall() {
        StringBuilder text = new StringBuilder();
        int blocks = 1 + random.nextInt(4);
        for (int b = 0; b < blocks; b++) {
            text.append('b').append(random.nextInt(12) == 0 ? random.nextInt(45) : b).append(':');
            for (int r = random.nextInt(4); r > 0; r--) {
                text.append(blank()).append(row(5));
            }
            text.append(blank()).append(ending(blocks, 5)).append(blank());
        }
        return text.toString();
    }

    private String blank() {
        String[] some = {" ", " ", "\n", "\t", "\r\n", " ; a remark v1 = \n", "  "};
        return some[random.nextInt(some.length)];
    }

    private String makeProgram() {
        StringBuilder text = new StringBuilder();
        int blocks = 1 + (random.nextInt(4) == 0 ? random.nextInt(40) : random.nextInt(8));
        int registers = 1 + (random.nextInt(4) == 0 ? random.nextInt(100) : random.nextInt(14));
        int rows = random.nextInt(161);
        for (int b = 0; b < blocks; b++) {
            text.append('b').append(b).append(':').append(blank());
            int here = b == blocks - 1 ? Math.min(rows, 30) : Math.min(rows, random.nextInt(2 + 2 * rows / blocks));
            rows -= here;
            for (int r = 0; r < here; r++) {
                text.append(row(registers)).append(blank());
            }
            text.append(ending(blocks, registers)).append(blank());
        }
        return text.length() > 4000 ? "b0: ret v1" : text.toString();
    }

    // All registers are alive at once, some of them are dear, and there are copies among them.
    private String makeCrowd() {
        StringBuilder text = new StringBuilder("b0: ");
        int dear = random.nextInt(100);
        for (int n = random.nextInt(20); n > 0; n--) {
            text.append('v').append(random.nextInt(100)).append(" = v").append(random.nextInt(100)).append(blank());
        }
        for (int v = 0; v < 100; v++) {
            text.append("show v").append(v).append(blank());
        }
        for (int n = 0; n < 40; n++) {
            text.append("show v").append((dear + random.nextInt(33)) % 100).append(blank());
        }
        return text.append("ret v").append(dear).toString();
    }

    private String row(int registers) {
        int kind = random.nextInt(10);
        String set = "v" + random.nextInt(registers) + " = ";
        if (kind == 0) {
            return "show " + operand(registers);
        }
        if (kind == 1) {
            return set + "in";
        }
        if (kind < 5) {
            return set + "v" + random.nextInt(registers);
        }
        if (kind == 5) {
            return set + number();
        }
        return set + operand(registers) + " " + OPS[random.nextInt(OPS.length)] + " " + operand(registers);
    }

    private String operand(int registers) {
        return random.nextInt(5) == 0 ? number() : "v" + random.nextInt(registers);
    }

    private String number() {
        int kind = random.nextInt(6);
        return String.valueOf(kind == 0 ? random.nextInt() : kind == 1 ? Integer.MIN_VALUE : random.nextInt(9) - 3);
    }

    private String ending(int blocks, int registers) {
        int kind = random.nextInt(6);
        if (kind == 0 || blocks == 1) {
            return "ret " + operand(registers);
        }
        if (kind < 3) {
            return "jump b" + goal(blocks);
        }
        return "if " + operand(registers) + " b" + goal(blocks) + " b" + goal(blocks);
    }

    private int goal(int blocks) {
        return 1 + random.nextInt(blocks - 1);
    }
}
