import java.util.ArrayList;
import java.util.Arrays;
import java.util.List;
import java.util.NoSuchElementException;
import java.util.Random;

/** Calls in any order with any arguments, against a model of the state; nothing but what is due may be thrown. */
public final class CallsTest {
    private static final String[] TEXTS = {
        "b0: ret 1",
        "b0: v1 = in v2 = in v3 = v1 + v2 show v1 show v2 ret v3",
        "b0: v1 = 9 jump b1 b1: v2 = v1 v1 = v1 - 1 show v2 v3 = v3 + v2 if v1 b1 b2 b2: ret v3",
        "b0: jump b1 b1: v1 = v1 + 1 show v1 jump b1",
        "b0: v1 = 3 / v9 ret v1",
        "b0: v5 = v6 v6 = v7 v7 = v5 v8 = v6 * v7 v9 = v8 - v5 v1 = v9 ^ v8 show v6 show v7 ret v1",
        "b0: jump b0", "b0: ret", "b1: ret 1", "", "x", "b0: ret 99999999999",
    };

    // What an object answers to later calls is free.
    private static final int MOST_CALLS = 512;

    private final Random random;
    private int calls;
    private final SpillForge x = new SpillForge();
    private final Oracle oracle = new Oracle();
    private byte[] tape = new byte[0];
    private int[] input = new int[0];
    private List<List<Oracle.Line>> given;
    private int[] givenCounts = new int[7];
    private String result = "";

    private CallsTest(long seed) {
        random = new Random(seed);
    }

    public static void main(String[] args) {
        for (int seed = 0; seed < 400; seed++) {
            CallsTest one = new CallsTest(seed);
            while (one.calls < MOST_CALLS) {
                one.call("seed " + seed + " call " + one.calls + " ");
            }
        }
        Forge.close("CallsTest");
    }

    private void call(String at) {
        switch (random.nextInt(16)) {
            case 0: feed(at); break;
            case 1: end(at); break;
            case 2: feedText(); break;
            case 3: text(at); break;
            case 4: input(at); break;
            case 5: give(at); break;
            case 6: count(at); break;
            case 7: look(at); break;
            case 8:
            case 9: run(at); break;
            case 10: told(at); break;
            case 11: shown(at); break;
            case 12: list(at); break;
            case 13: word(at); break;
            default: count(at); break;
        }
    }

    private int any(int most) {
        int[] edges = {-1, 0, 1, most - 1, most, most + 1, Integer.MIN_VALUE, Integer.MAX_VALUE};
        return random.nextInt(4) == 0 ? edges[random.nextInt(edges.length)] : random.nextInt(Math.max(1, most + 1));
    }

    private void check(String call, Forge.Call made, Object want) {
        calls++;
        Forge.due(call, Forge.answer(made), want);
    }

    private void feed(String at) {
        int[] five = {random.nextInt(), random.nextInt(9), -1, 0x62303a20, random.nextInt()};
        int times = random.nextInt(40) == 0 ? 420 : 1;
        for (int n = 0; n < times && calls < MOST_CALLS; n++) {
            boolean fits = tape.length + 20 <= 8192;
            check(at + "feed", () -> x.feed(five[0], five[1], five[2], five[3], five[4]),
                    fits ? tape.length + 20 : IndexOutOfBoundsException.class);
            if (fits) {
                int before = tape.length;
                tape = Arrays.copyOf(tape, before + 20);
                for (int i = 0; i < 20; i++) {
                    tape[before + i] = (byte) (five[i / 4] >> 24 - i % 4 * 8);
                }
            }
        }
    }

    private void end(String at) {
        int n = any(tape.length);
        boolean right = n >= 0 && n <= tape.length;
        check(at + "end " + n, () -> x.end(n), right ? n : IllegalArgumentException.class);
        tape = right ? Arrays.copyOf(tape, n) : tape;
    }

    private void feedText() {
        byte[] text = Forge.bytes(TEXTS[random.nextInt(TEXTS.length)]);
        int needed = 4 + text.length / 20;
        if (calls + needed > MOST_CALLS) {
            calls = MOST_CALLS;
            return;
        }
        calls += needed;
        if (random.nextBoolean()) {
            x.end(0);
            tape = new byte[0];
        }
        if (tape.length + text.length + 20 <= 8192) {
            Forge.feed(x, text);
            int before = tape.length;
            tape = Arrays.copyOf(tape, before + text.length);
            System.arraycopy(text, 0, tape, before, text.length);
        }
    }

    private void text(String at) {
        check(at + "text", x::text, oracle.read(tape));
        tape = new byte[0];
        if (oracle.program != null) {
            setGiven(null);
        }
    }

    private void setGiven(List<List<Oracle.Line>> code) {
        given = code;
        givenCounts = code == null ? new int[7] : new int[] {
            Oracle.rows(code), Oracle.registers(code), oracle.slots, oracle.spilled, oracle.merged,
            Oracle.copiesWithSlot(code, true), Oracle.copiesWithSlot(code, false),
        };
    }

    private void input(String at) {
        check(at + "input", x::input, tape.length / 4);
        input = new int[tape.length / 4];
        for (int i = 0; i < input.length * 4; i++) {
            input[i / 4] = input[i / 4] << 8 | tape[i] & 255;
        }
        tape = new byte[0];
    }

    private void give(String at) {
        int k = any(random.nextBoolean() ? 4 : 32);
        Object want = k < 1 || k > 32 ? IllegalArgumentException.class
                : oracle.program == null ? IllegalStateException.class : oracle.give(k);
        check(at + "give " + k, () -> x.give(k), want);
        if (want instanceof Integer) {
            setGiven(oracle.given);
        }
    }

    private void count(String at) {
        int what = any(11);
        boolean none = oracle.program == null;
        int[] first = {
            none ? 0 : oracle.program.size(), none ? 0 : Oracle.rows(oracle.program), oracle.reason, tape.length,
            result.length(),
        };
        Object want = what < 0 || what > 11 ? IllegalArgumentException.class
                : what < 5 ? first[what] : (Object) givenCounts[what - 5];
        check(at + "count " + what, () -> x.count(what), want);
    }

    private void look(String at) {
        int v = any(10);
        int what = any(3);
        check(at + "look " + v + " " + what, () -> x.look(v, what), lookDue(v, what));
    }

    private Object lookDue(int v, int what) {
        if (oracle.program == null) {
            return IllegalStateException.class;
        }
        if (what < 0 || what > 3) {
            return IllegalArgumentException.class;
        }
        oracle.build(oracle.firstRound(), "v");
        boolean there = what < 2 ? oracle.joined.containsKey("v" + v) : v >= 0 && v < oracle.program.size();
        if (!there) {
            return NoSuchElementException.class;
        }
        return what == 0 ? oracle.weight.get("v" + v)
                : what == 1 ? (Object) oracle.joined.get("v" + v).size()
                : what == 2 ? (Object) Oracle.live(oracle.program, "v").get(v).get(0).size()
                : (Object) Oracle.depth(oracle.program, v);
    }

    private void run(String at) {
        boolean isGiven = random.nextBoolean();
        int fuel = any(random.nextInt(10) == 0 ? 100000 : 60);
        List<List<Oracle.Line>> code = isGiven ? given : oracle.program;
        boolean right = fuel >= 1 && fuel <= 100000;
        if (right && code != null) {
            oracle.run(code, fuel, input);
        }
        check(at + "run " + isGiven + " " + fuel, () -> x.run(isGiven, fuel), !right ? IllegalArgumentException.class
                : code == null ? IllegalStateException.class : (Object) oracle.ending);
    }

    private void told(String at) {
        int what = any(4);
        int[] all = {oracle.answer, oracle.shown.size(), oracle.steps, oracle.reads, oracle.ending};
        check(at + "told " + what, () -> x.told(what),
                what < 0 || what > 4 ? IllegalArgumentException.class : (Object) all[what]);
    }

    private void shown(String at) {
        int i = any(oracle.shown.size());
        List<Integer> all = new ArrayList<>(oracle.shown);
        check(at + "shown " + i, () -> x.shown(i),
                i < 0 || i >= all.size() ? IndexOutOfBoundsException.class : (Object) all.get(i));
    }

    private void list(String at) {
        boolean isGiven = random.nextBoolean();
        List<List<Oracle.Line>> code = isGiven ? given : oracle.program;
        result = code == null ? result : Oracle.listing(code);
        check(at + "list " + isGiven, () -> x.list(isGiven),
                code == null ? IllegalStateException.class : (Object) result.length());
    }

    private void word(String at) {
        int i = any(result.length());
        long eight = 0;
        for (int k = 0; k < 8; k++) {
            boolean inside = i >= 0 && (long) i + k < result.length();
            eight = eight << 8 | (inside ? result.charAt(i + k) : 0);
        }
        check(at + "word " + i, () -> x.word(i),
                i < 0 || i >= result.length() ? IndexOutOfBoundsException.class : (Object) eight);
    }
}
