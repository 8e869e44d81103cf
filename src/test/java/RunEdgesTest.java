/** The sentences on RUNS, INPUT and what a RUN tells that name an edge. */
public final class RunEdgesTest {
    private static final int LEAST = Integer.MIN_VALUE;
    private static final int MOST = Integer.MAX_VALUE;

    private RunEdgesTest() {
    }

    public static void main(String[] args) {
        wrapAround();
        shifts();
        comparisons();
        division();
        byZero();
        everyOpOfMany();
        zeroAtFirst();
        inputBehindItsEnd();
        inputOfBytes();
        inputOfAFullTape();
        branches();
        fuel();
        fuelAgainstOtherEnds();
        fuelArguments();
        shows();
        answers();
        toldBeforeAndBehind();
        shownEdges();
        givenTellsTheSame();
        Forge.close("RunEdgesTest");
    }

    /** As numbers, as registers, and as given out with the fewest registers. */
    private static void gives(int left, String op, int right, int want) {
        String name = left + " " + op + " " + right;
        SpillForge x = Forge.of("b0: v1 = " + name + " ret v1");
        Forge.due("run of " + name, x.run(false, 2), 0);
        Forge.due(name, x.told(0), want);
        x = Forge.of("b0: v1 = in v2 = in v3 = v1 " + op + " v2 ret v3");
        Forge.input(x, left, right);
        x.run(false, 4);
        Forge.due(name + " of registers", x.told(0), want);
        x.give(2);
        x.run(true, 4);
        Forge.due(name + " as given out", x.told(0), want);
    }

    private static void wrapAround() {
        gives(MOST, "+", 0, MOST);
        gives(MOST, "+", 1, LEAST);
        gives(LEAST, "+", -1, MOST);
        gives(MOST, "+", MOST, -2);
        gives(LEAST, "+", LEAST, 0);
        gives(LEAST, "-", 1, MOST);
        gives(MOST, "-", -1, LEAST);
        gives(0, "-", LEAST, LEAST);
        gives(MOST, "*", 2, -2);
        gives(LEAST, "*", -1, LEAST);
        gives(65536, "*", 65536, 0);
        gives(65536, "*", 32768, LEAST);
        gives(46341, "*", 46341, -2147479015);
    }

    private static void shifts() {
        gives(1, "<<", 0, 1);
        gives(1, "<<", 31, LEAST);
        gives(1, "<<", 32, 1);
        gives(1, "<<", 33, 2);
        gives(1, "<<", 63, LEAST);
        gives(1, "<<", -1, LEAST);
        gives(1, "<<", -32, 1);
        gives(3, "<<", 31, LEAST);
        gives(LEAST, ">>", 31, -1);
        gives(LEAST, ">>", 32, LEAST);
        gives(LEAST, ">>", 1, -1073741824);
        gives(MOST, ">>", 30, 1);
        gives(MOST, ">>", 31, 0);
        gives(-1, ">>", 5, -1);
        gives(-8, ">>", -31, -4);
        gives(5, ">>", LEAST, 5);
    }

    private static void comparisons() {
        int[] ordered = {LEAST, LEAST + 1, -1, 0, 1, MOST - 1, MOST};
        for (int a = 0; a < ordered.length; a++) {
            for (int b = 0; b < ordered.length; b++) {
                gives(ordered[a], "<", ordered[b], a < b ? 1 : 0);
                gives(ordered[a], "<=", ordered[b], a <= b ? 1 : 0);
                gives(ordered[a], "==", ordered[b], a == b ? 1 : 0);
                gives(ordered[a], "!=", ordered[b], a != b ? 1 : 0);
            }
        }
    }

    private static void division() {
        gives(7, "/", 2, 3);
        gives(-7, "/", 2, -3);
        gives(7, "/", -2, -3);
        gives(-7, "/", -2, 3);
        gives(7, "%", 2, 1);
        gives(-7, "%", 2, -1);
        gives(7, "%", -2, 1);
        gives(-7, "%", -2, -1);
        gives(1, "/", 2, 0);
        gives(-1, "/", 2, 0);
        gives(LEAST, "/", -1, LEAST);
        gives(LEAST, "%", -1, 0);
        gives(LEAST, "/", 1, LEAST);
        gives(LEAST, "%", 1, 0);
        gives(LEAST, "/", LEAST, 1);
        gives(LEAST, "%", LEAST, 0);
        gives(MOST, "/", LEAST, 0);
        gives(MOST, "%", LEAST, MOST);
        gives(LEAST + 1, "/", -1, MOST);
        gives(0, "/", 5, 0);
        gives(0, "%", 5, 0);
    }

    private static void byZero() {
        for (String op : new String[] {"/", "%"}) {
            for (String left : new String[] {"0", "1", "-1", "-2147483648", "v5"}) {
                for (String right : new String[] {"0", "-0", "v6"}) {
                    SpillForge x = Forge.of("b0: v1 = in show v1 v2 = " + left + op + right + " show 9 ret 8");
                    Forge.input(x, 4, 5);
                    Forge.due("run with " + left + op + right, x.run(false, 9), 1);
                    Forge.due("told of " + left + op + right, Forge.told(x), "0 1 3 1 1 4");
                }
            }
        }
        SpillForge x = Forge.of("b0: v1 = 5 v1 = v1 / 0 ret v1");
        x.run(false, 9);
        Forge.due("a RUN with no ret has no answer", Forge.told(x), "0 0 2 0 1");
        Forge.due("by 0 as given out", x.give(1) + " " + x.run(true, 9), "1 1");
    }

    private static void everyOpOfMany() {
        int[] some = {LEAST, -65537, -33, -2, 0, 1, 3, 31, 64, 1 << 20, MOST};
        for (int a : some) {
            for (int b : some) {
                gives(a, "&", b, a & b);
                gives(a, "|", b, a | b);
                gives(a, "^", b, a ^ b);
                gives(a, "*", b, (int) ((long) a * b));
            }
        }
    }

    private static void zeroAtFirst() {
        SpillForge x = Forge.of("b0: v1 = v1 + 1 v99 = v99 + v1 show v0 show v99 ret v1");
        for (int n = 0; n < 3; n++) {
            x.run(false, 9);
            Forge.due("registers are 0 first in RUN " + n, Forge.told(x), "1 2 5 0 0 0 1");
        }
        x.give(1 + 2);
        for (int n = 0; n < 3; n++) {
            x.run(true, 19);
            Forge.due("registers are 0 first as given out", x.told(0) + " " + x.shown(0) + " " + x.shown(1), "1 0 1");
        }
    }

    private static void inputBehindItsEnd() {
        SpillForge x = Forge.of("b0: v1 = 8 v1 = in show v1 v1 = 8 v1 = in show v1 v1 = 8 v1 = in show v1 ret v1");
        x.run(false, 99);
        Forge.due("no INPUT at all", Forge.told(x), "0 3 10 0 0 0 0 0");
        Forge.input(x, 5);
        x.run(false, 99);
        Forge.due("INPUT of one", Forge.told(x), "0 3 10 1 0 5 0 0");
        Forge.input(x, 5, -6, 7);
        x.run(false, 99);
        Forge.due("INPUT that is just enough", Forge.told(x), "7 3 10 3 0 5 -6 7");
        Forge.input(x, 5, -6, 7, 8);
        x.run(false, 99);
        Forge.due("INPUT of more", Forge.told(x), "7 3 10 3 0 5 -6 7");
        Forge.due("a new INPUT of nothing", x.input(), 0);
        x.run(false, 99);
        Forge.due("is in place of the one before", Forge.told(x), "0 3 10 0 0 0 0 0");
    }

    private static void inputOfBytes() {
        for (int bytes = 0; bytes <= 9; bytes++) {
            SpillForge x = Forge.of("b0: v1 = in v2 = in v3 = in show v1 show v2 ret v3");
            byte[] all = new byte[bytes];
            for (int i = 0; i < bytes; i++) {
                all[i] = (byte) (0x81 + i);
            }
            Forge.feed(x, all);
            Forge.due("ints of " + bytes + " bytes", x.input(), bytes / 4);
            Forge.due("the TAPE is empty then", x.count(3), 0);
            x.run(false, 99);
            String want = bytes < 4 ? "0 0" : bytes < 8 ? 0x81828384 + " 0" : 0x81828384 + " " + 0x85868788;
            Forge.due("their values", Forge.told(x), "0 2 6 " + bytes / 4 + " 0 " + want);
        }
    }

    private static void inputOfAFullTape() {
        SpillForge x = Forge.of("b0: jump b1 b1: v1 = v1 + 1 v2 = in v3 = v1 < 2048 if v3 b1 b2 b2: v4 = in ret v2");
        for (int n = 0; n < 409; n++) {
            x.feed(n, n, n, n, n);
        }
        x.end(8172);
        x.feed(-1, -2, -3, -4, -5);
        Forge.due("INPUT of a full TAPE", x.input(), 2048);
        Forge.due("its run", x.run(false, 100000), 0);
        Forge.due("its last int, how many were read", x.told(0) + " " + x.told(3), "-5 2048");
    }

    private static void branches() {
        int[] tested = {0, 1, -1, LEAST, MOST, 256, 65536};
        for (int value : tested) {
            int want = value == 0 ? 2 : 1;
            SpillForge x = Forge.of("b0: if " + value + " b1 b2 b1: ret 1 b2: ret 2");
            x.run(false, 2);
            Forge.due("if " + value, Forge.told(x), want + " 0 2 0 0");
            x = Forge.of("b0: v1 = " + value + " if v1 b1 b2 b1: ret 1 b2: ret 2");
            x.run(false, 3);
            Forge.due("if of a register with " + value, Forge.told(x), want + " 0 3 0 0");
        }
    }

    private static void fuel() {
        SpillForge x = Forge.of("b0: show 1 v1 = 3 jump b1 b1: show v1 if v1 b2 b1 b2: ret 7");
        String[] want = {"0 1 1 0 4 1", "0 1 2 0 4 1", "0 1 3 0 4 1", "0 2 4 0 4 1 3", "0 2 5 0 4 1 3", "7 2 6 0 0 1 3",
            "7 2 6 0 0 1 3"};
        for (int n = 0; n < want.length; n++) {
            Forge.due("run with fuel " + (n + 1), x.run(false, n + 1), n < 5 ? 4 : 0);
            Forge.due("told with fuel " + (n + 1), Forge.told(x), want[n]);
        }
        x = Forge.of("b0: ret 3");
        Forge.due("one STEP is enough", x.run(false, 1), 0);
        Forge.due("and told", Forge.told(x), "3 0 1 0 0");
        x = Forge.of("b0: jump b1 b1: jump b1");
        Forge.due("all FUEL", x.run(false, 100000), 4);
        Forge.due("all FUEL told", Forge.told(x), "0 0 100000 0 4");
        x = Forge.of("b0: v1 = 49998 jump b1 b1: v1 = v1 - 1 if v1 b1 b2 b2: v2 = 0 ret 5");
        Forge.due("99999 of 100000 STEPS", x.run(false, 99999), 4);
        Forge.due("100000 of 100000 STEPS", x.run(false, 100000), 0);
        Forge.due("100000 STEPS told", Forge.told(x), "5 0 100000 0 0");
    }

    private static void fuelAgainstOtherEnds() {
        SpillForge x = Forge.of("b0: v1 = in v2 = 1 / 0 ret 1");
        Forge.due("no STEP for the division", x.run(false, 1), 4);
        Forge.due("the division is the last STEP", x.run(false, 2), 1);
        Forge.due("its STEPS", Forge.told(x), "0 0 2 0 1");
        x = Forge.of("b0: jump b1 b1: show 5 jump b1");
        Forge.due("no STEP for the 513th show", x.run(false, 1 + 2 * 512), 4);
        Forge.due("its shows and STEPS", x.told(1) + " " + x.told(2), "512 1025");
        Forge.due("the 513th show is the last STEP", x.run(false, 2 + 2 * 512), 5);
        Forge.due("its shows and STEPS", x.told(1) + " " + x.told(2), "512 1026");
    }

    private static void fuelArguments() {
        SpillForge x = Forge.of("b0: ret 3");
        x.give(1);
        for (int fuel : new int[] {0, -1, LEAST, 100001, MOST}) {
            Forge.throwsDue("run(false, " + fuel + ")", IllegalArgumentException.class, () -> x.run(false, fuel));
            Forge.throwsDue("run(true, " + fuel + ")", IllegalArgumentException.class, () -> x.run(true, fuel));
        }
        Forge.due("there was no RUN", x.told(4), -1);
        Forge.due("run(false, 1)", x.run(false, 1), 0);
        Forge.due("run(true, 100000)", x.run(true, 100000), 0);
    }

    private static void shows() {
        for (int most = 511; most <= 513; most++) {
            SpillForge x = Forge.of("b0: jump b1 b1: v1 = v1 + 1 show v1 v2 = v1 < " + most
                    + " if v2 b1 b2 b2: ret v1");
            Forge.due(most + " shows", x.run(false, 100000), most <= 512 ? 0 : 5);
            Forge.due(most + " shows: answer", x.told(0), most <= 512 ? most : 0);
            Forge.due(most + " shows: how many", x.told(1), Math.min(most, 512));
            Forge.due(most + " shows: the last one", x.shown(x.told(1) - 1), Math.min(most, 512));
            Forge.throwsDue(most + " shows: one more", IndexOutOfBoundsException.class, () -> x.shown(x.told(1)));
        }
    }

    private static void answers() {
        for (int value : new int[] {0, 1, -1, LEAST, MOST}) {
            SpillForge x = Forge.of("b0: ret " + value);
            x.run(false, 1);
            Forge.due("ret " + value, Forge.told(x), value + " 0 1 0 0");
            x = Forge.of("b0: v1 = in show v1 ret v1");
            Forge.input(x, value);
            x.run(false, 5);
            Forge.due("show and ret of " + value, Forge.told(x), value + " 1 3 1 0 " + value);
            x.run(false, 2);
            Forge.due("no answer without ret", x.told(0), 0);
        }
    }

    private static void toldBeforeAndBehind() {
        SpillForge x = Forge.of("b0: v1 = in show v1 ret 6");
        Forge.due("told before any RUN", Forge.told(x), "0 0 0 0 -1");
        for (int what : new int[] {-1, 5, LEAST, MOST}) {
            Forge.throwsDue("told(" + what + ")", IllegalArgumentException.class, () -> x.told(what));
        }
        Forge.input(x, 9);
        x.run(false, 100);
        String told = "6 1 3 1 0 9";
        Forge.due("told behind the RUN", Forge.told(x), told);
        x.give(2);
        x.list(true);
        Forge.input(x, 1, 2);
        Forge.due("told behind give, list and input", Forge.told(x), told);
        Forge.read(x, "b0: ret 1");
        Forge.due("told behind a right text", Forge.told(x), told);
        Forge.read(x, "b0: ret");
        Forge.due("told behind a wrong text", Forge.told(x), told);
        Forge.throwsDue("run of none", IllegalStateException.class, () -> x.run(false, 5));
        Forge.due("told behind a refused run", Forge.told(x), told);
    }

    private static void shownEdges() {
        SpillForge x = Forge.of("b0: show 7 show -8 ret 1");
        Forge.throwsDue("shown(0) before any RUN", IndexOutOfBoundsException.class, () -> x.shown(0));
        x.run(false, 10);
        Forge.due("shown(0)", x.shown(0), 7);
        Forge.due("shown(1)", x.shown(1), -8);
        for (int i : new int[] {-1, 2, 511, 512, LEAST, MOST}) {
            Forge.throwsDue("shown(" + i + ")", IndexOutOfBoundsException.class, () -> x.shown(i));
        }
        x.run(false, 1);
        Forge.due("shown(0) of a shorter RUN", x.shown(0), 7);
        Forge.throwsDue("shown(1) of a shorter RUN", IndexOutOfBoundsException.class, () -> x.shown(1));
        Forge.read(x, "b0: ret 1");
        x.run(false, 1);
        Forge.throwsDue("shown(0) of a RUN that showed none", IndexOutOfBoundsException.class, () -> x.shown(0));
    }

    private static void givenTellsTheSame() {
        SpillForge x = Forge.of("b0: v1 = in v2 = in v3 = v1 * v2 v4 = v1 - v2 jump b1 b1: show v3 v3 = v3 / v4"
                + " v4 = v4 + 1 if v3 b1 b2 b2: v5 = v1 + v2 ret v5");
        Forge.input(x, 12, 9);
        x.run(false, 1000);
        Forge.due("as it was read", Forge.told(x), "21 4 23 2 0 108 36 9 1");
        for (int k = 2; k <= 6; k++) {
            x.give(k);
            x.run(true, 1000);
            Forge.due("with " + k + " all but the STEPS", Forge.told(x).replaceFirst(" 4 \\d+ ", " 4 steps "),
                    "21 4 steps 2 0 108 36 9 1");
        }
    }
}
