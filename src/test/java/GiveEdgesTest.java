/** The sentences on LIVE, DEPTH and GIVING OUT that name an edge, by examples that were worked out by hand. */
public final class GiveEdgesTest {
    private GiveEdgesTest() {
    }

    public static void main(String[] args) {
        liveInFront();
        joined();
        weights();
        depths();
        zerosInFront();
        mergesItself();
        mergesWithFewerThanK();
        mergesNotWithK();
        mergesOneLess();
        mergesNoTemporary();
        mergesHighNumbers();
        mergesInLaterRounds();
        mergesFirstRowFirst();
        takesTheLeastApart();
        comparesExactly();
        takesTheLeastOfSeveral();
        mostRegisters();
        fewestRegisters();
        spillsEnds();
        loadsOnceForBoth();
        loadsInOrder();
        sharesSlots();
        fortyRounds();
        allHundredRegisters();
        crowds();
        largestProgram();
        givesOfWhatWasRead();
        countsWithoutRegisters();
        Forge.close("GiveEdgesTest");
    }

    private static void looks(String text, int what, String want) {
        SpillForge x = Forge.of(text);
        StringBuilder got = new StringBuilder();
        for (int v = 0; v < want.split(" ").length; v++) {
            int at = v;
            Object answer = Forge.answer(() -> x.look(at, what));
            got.append(answer instanceof Integer ? answer.toString() : "-").append(' ');
        }
        Forge.due("look(.., " + what + ") of " + text, got.toString().trim(), want);
    }

    private static SpillForge given(String text, int k, int rounds, String listing, int... counts) {
        SpillForge x = Forge.of(text);
        Forge.due("give(" + k + ") of " + text, x.give(k), rounds);
        for (int n = 0; n < counts.length; n++) {
            Forge.due("count(" + (5 + n) + ") of " + text, x.count(5 + n), counts[n]);
        }
        if (listing != null) {
            Forge.due("list(true) of " + text, Forge.answer(() -> Forge.list(x, true)), listing);
        }
        return x;
    }

    private static void liveInFront() {
        looks("b0: v1 = 1 ret v1", 2, "0 -");
        looks("b0: v1 = v2 ret v1", 2, "1 -");
        looks("b0: v1 = v1 + 1 ret v1", 2, "1 -");
        looks("b0: v1 = in v2 = v1 + v3 v3 = 1 ret v3", 2, "1 -");
        looks("b0: ret v5", 2, "1 -");
        looks("b0: show v5 ret v5", 2, "1 -");
        looks("b0: if v5 b1 b1 b1: ret 1", 2, "1 0 -");
        looks("b0: if 1 b1 b2 b1: ret v1 b2: ret v2", 2, "2 1 1 -");
        looks("b0: v1 = 1 if 1 b1 b2 b1: ret v1 b2: ret v2", 2, "1 1 1 -");
        looks("b0: jump b1 b1: v1 = 2 jump b2 b2: show v1 show v2 if v3 b1 b2", 2, "2 2 3 -");
        looks("b0: ret 1 b1: show v7 ret v1 b2: jump b1", 2, "0 2 2 -");
        looks("b0: v0 = v63 v1 = v64 v2 = v99 ret v0", 2, "3 -");
        // The way from b0 to the use goes through all blocks, the last one first.
        StringBuilder back = new StringBuilder("b0: jump b39 b1: ret v7 ");
        for (int b = 2; b < 40; b++) {
            back.append('b').append(b).append(": jump b").append(b - 1).append(' ');
        }
        looks(back.toString(), 2, Forge.times(40, "1 ") + "-");
    }

    private static void joined() {
        looks("b0: v0 = 1 v1 = 2 ret v0", 1, "1 1 -");
        looks("b0: v0 = 1 v1 = v0 ret v1", 1, "0 0 -");
        looks("b0: v0 = 1 v1 = v0 + 0 ret v1", 1, "0 0 -");
        looks("b0: v0 = 1 v1 = v0 + 0 show v0 ret v1", 1, "1 1 -");
        looks("b0: v0 = 1 v1 = v0 show v0 ret v1", 1, "0 0 -");
        looks("b0: v0 = 1 v1 = v0 v0 = 3 show v0 ret v1", 1, "1 1 -");
        looks("b0: v0 = 1 v2 = 5 v1 = v0 show v0 show v2 ret v1", 1, "1 1 2 -");
        looks("b0: v0 = v0 + 1 ret v0", 1, "0 -");
        looks("b0: v0 = 1 jump b1 b1: v1 = in if v1 b1 b2 b2: ret v0", 1, "1 1 -");
        looks("b0: v1 = 1 ret v1 b1: v0 = 2 v2 = 3 ret v0", 1, "1 0 1 -");
        looks("b0: show v0 show v1 ret v2", 1, "2 2 2 -");
    }

    private static void weights() {
        looks("b0: v0 = v0 + v0 ret v1", 0, "4 2 -");
        looks("b0: v0 = in v1 = v0 show v1 v1 = 3 if v1 b1 b1 b1: ret v0", 0, "3 4 -");
        looks("b0: v0 = in jump b1 b1: v0 = v0 - 1 if v0 b1 b2 b2: ret v0", 0, "32 -");
        looks("b0: ret 1 b1: v0 = v0 + v0 if v0 b1 b1", 0, "4 -");
        String deep = "b0: jump b1 b1: jump b2 b2: jump b3 b3: jump b4 b4: ";
        looks(deep + "v0 = in if 1 b4 b5 b5: if 1 b3 b6 b6: if 1 b2 b7 b7: if 1 b1 b8 b8: ret 1", 0, "10000 -");
        looks(deep + "jump b5 b5: v0 = in if 1 b5 b6 b6: v1 = in if 1 b4 b7 b7: v2 = in if 1 b3 b8 b8: v3 = in"
                + " if 1 b2 b9 b9: v4 = in if 1 b1 b10 b10: v5 = in ret 1", 0, "10000 10000 1000 100 10 1 -");
    }

    private static void depths() {
        looks("b0: ret 1", 3, "0 -");
        looks("b0: jump b1 b1: jump b1", 3, "0 1 -");
        looks("b0: jump b1 b1: jump b2 b2: if 1 b1 b3 b3: ret 1", 3, "0 1 1 0 -");
        looks("b0: jump b1 b1: if 1 b2 b3 b2: if 1 b1 b4 b3: jump b1 b4: ret 1", 3, "0 1 1 1 0 -");
        looks("b0: jump b1 b1: jump b2 b2: if 1 b2 b3 b3: if 1 b1 b4 b4: ret 1", 3, "0 1 2 1 0 -");
        // Two ways into a ring: neither stands on all ways to the other.
        looks("b0: if 1 b1 b2 b1: jump b2 b2: jump b1", 3, "0 0 0 -");
        // The same ring inside a loop of b1.
        looks("b0: jump b1 b1: if 1 b2 b3 b2: jump b3 b3: if 1 b2 b1", 3, "0 1 1 1 -");
        // What is not reached is in no loop, and makes none.
        looks("b0: ret 1 b1: jump b1 b2: if 1 b1 b2", 3, "0 0 0 -");
        looks("b0: jump b1 b1: if 1 b1 b3 b2: jump b1 b3: ret 1", 3, "0 1 0 0 -");
        String deep = "b0: jump b1 b1: jump b2 b2: jump b3 b3: jump b4 b4: ";
        looks(deep + "if 1 b4 b5 b5: if 1 b3 b6 b6: if 1 b2 b7 b7: if 1 b1 b8 b8: ret 1", 3, "0 1 2 3 4 3 2 1 0 -");
        looks(deep + "jump b5 b5: if 1 b5 b6 b6: if 1 b4 b7 b7: if 1 b3 b8 b8: if 1 b2 b9 b9: if 1 b1 b10 b10: ret 1",
                3, "0 1 2 3 4 4 4 3 2 1 0 -");
        StringBuilder all = new StringBuilder("b0: jump b1 ");
        for (int b = 1; b < 39; b++) {
            all.append('b').append(b).append(": jump b").append(b + 1).append(' ');
        }
        looks(all + "b39: jump b1", 3, "0" + Forge.times(39, " 1") + " -");
        looks(all + "b39: jump b39", 3, "0" + Forge.times(38, " 0") + " 1 -");
    }

    private static void zerosInFront() {
        // v5 and v9 are LIVE first, v3 and v4 are not; from the pile come v9, v5, v4, v3.
        given("b0: show v9 show v5 v3 = 1 show v3 ret v3 b1: ret v4", 32, 1,
                "b0:\nv1 = 0\nv0 = 0\nshow v0\nshow v1\nv0 = 1\nshow v0\nret v0\nb1:\nret v0\n", 6, 2, 0, 0, 0, 0, 0);
        // In front of b0's ROWS, even if it has none.
        given("b0: jump b1 b1: v1 = v1 + 1 if v1 b1 b2 b2: ret v1", 1, 1,
                "b0:\nv0 = 0\njump b1\nb1:\nv0 = v0 + 1\nif v0 b1 b2\nb2:\nret v0\n", 2, 1, 0, 0, 0, 0, 0);
        given("b0: v1 = 4 ret v1", 1, 1, "b0:\nv0 = 4\nret v0\n", 1, 1, 0, 0, 0, 0, 0);
    }

    private static void mergesItself() {
        given("b0: v7 = v7 ret v7", 1, 1, "b0:\nv0 = 0\nret v0\n", 1, 1, 0, 0, 1, 0, 0);
        given("b0: v7 = 1 v7 = v7 v7 = v7 ret 2", 1, 1, "b0:\nv0 = 1\nret 2\n", 1, 1, 0, 0, 2, 0, 0);
        given("b0: v7 = 1 v7 = v7 + 0 v7 = 7 ret v7", 1, 1, "b0:\nv0 = 1\nv0 = v0 + 0\nv0 = 7\nret v0\n",
                3, 1, 0, 0, 0, 0, 0);
        // v7 is JOINED to v8 and to v9, and still goes.
        given("b0: v8 = in v9 = in v7 = in v7 = v7 show v7 show v8 ret v9", 3, 1, null, 5, 3, 0, 0, 1, 0, 0);
    }

    private static final String TWO_NEIGHBOURS =
            "b0: v1 = in v3 = in show v3 v4 = in show v4 v2 = v1 v3 = in show v3 v4 = in show v4 show v2 ";

    private static void mergesOneLess() {
        // v3 and v4 are JOINED to v1 and v2 alone: to one less behind it, and 1 is fewer than K.
        given(TWO_NEIGHBOURS + "ret 0", 2, 1, null, 10, 2, 0, 0, 1, 0, 0);
    }

    private static void mergesWithFewerThanK() {
        // v3 is JOINED to v5 too, so that one register, fewer than K, is JOINED to K.
        given(TWO_NEIGHBOURS + "v3 = in v5 = in show v3 show v5 ret 0", 2, 1, null, 14, 2, 0, 0, 1, 0, 0);
        // With three colours v3 and v4, JOINED to each other, are JOINED to fewer than K.
        given(TWO_NEIGHBOURS + "v3 = in v4 = in show v3 show v4 ret 0", 3, 1, null, 14, 3, 0, 0, 1, 0, 0);
    }

    private static void mergesNotWithK() {
        // v3 and v4 are JOINED to each other too: two that are JOINED to K. v1 and v2 are SPILLED, each of them.
        given(TWO_NEIGHBOURS + "v3 = in v4 = in show v3 show v4 ret 0", 2, 2, null, 19, 2, 1, 2, 0, 2, 2);
        // A ring of v1, v3, v5, v4: v3 and v4 are JOINED to two, and v2 is not merged, although it gets v1's colour.
        String ring = "b0: v1 = in v3 = in show v3 v4 = in show v4 v2 = v1 show v2 v3 = in v5 = in show v3 show v5 ";
        given(ring + "v4 = in v5 = in show v4 show v5 ret 0", 2, 1,
                "b0:\nv0 = in\nv1 = in\nshow v1\nv1 = in\nshow v1\nv0 = v0\nshow v0\nv1 = in\nv0 = in\nshow v1\n"
                + "show v0\nv1 = in\nv0 = in\nshow v1\nshow v0\nret 0\n", 15, 2, 0, 0, 0, 0, 0);
        given(ring + "ret 0", 2, 1, null, 10, 2, 0, 0, 1, 0, 0);
        // JOINED to each other by another ROW.
        given("b0: v1 = in v2 = v1 v1 = in show v2 ret v1", 2, 1,
                "b0:\nv1 = in\nv0 = v1\nv1 = in\nshow v0\nret v1\n", 4, 2, 0, 0, 0, 0, 0);
    }

    private static void mergesNoTemporary() {
        // Round 1 spills v1 and v2, round 2 v3, which goes before the TEMPORARIES; their copy stays.
        given("b0: v3 = in v1 = in v2 = v1 show v1 show v2 show v3 show v3 show v3 ret v3", 1, 3,
                "b0:\nv0 = in\nslot 2 = v0\nv0 = in\nslot 0 = v0\nv0 = slot 0\nv0 = v0\nslot 1 = v0\n"
                + "v0 = slot 0\nshow v0\nv0 = slot 1\nshow v0\nv0 = slot 2\nshow v0\nv0 = slot 2\nshow v0\n"
                + "v0 = slot 2\nshow v0\nv0 = slot 2\nret v0\n", 18, 1, 3, 3, 0, 7, 3);
        // v1 is SPILLED; v100, the first TEMPORARY, is set by a copy.
        given("b0: v2 = in v1 = v2 v3 = in show v3 show v3 show v1 ret 0", 1, 2,
                "b0:\nv0 = in\nv0 = v0\nslot 0 = v0\nv0 = in\nshow v0\nshow v0\nv0 = slot 0\nshow v0\nret 0\n",
                8, 1, 1, 1, 0, 1, 1);
        // The same with v100 as what is copied: b1 is not reached, and v1 is never set.
        given("b0: ret 0 b1: v3 = in show v3 show v3 v2 = v1 ret v2", 1, 2,
                "b0:\nret 0\nb1:\nv0 = in\nshow v0\nshow v0\nv0 = slot 0\nv0 = v0\nret v0\n",
                5, 1, 1, 1, 0, 1, 0);
    }

    private static void mergesHighNumbers() {
        for (int high : new int[] {1, 62, 63, 64, 65, 98, 99}) {
            String v = "v" + high;
            given("b0: " + v + " = in v0 = " + v + " " + v + " = in show " + v + " ret v0", 2, 1, null,
                    4, 2, 0, 0, 0, 0, 0);
            given("b0: v0 = in " + v + " = v0 v0 = in show " + v + " ret v0", 2, 1, null, 4, 2, 0, 0, 0, 0, 0);
            given("b0: " + v + " = in v0 = " + v + " show " + v + " ret v0", 2, 1, null, 2, 1, 0, 0, 1, 0, 0);
            given("b0: v0 = in " + v + " = v0 show " + v + " ret v0", 2, 1, null, 2, 1, 0, 0, 1, 0, 0);
        }
    }

    private static void mergesInLaterRounds() {
        // With one colour v3 (2 of WEIGHT for 2) forbids it first; when it is in a slot, v2 and v1 are merged.
        given("b0: v3 = in v1 = in v2 = v1 show v1 show v2 ret v3", 1, 2,
                "b0:\nv0 = in\nslot 0 = v0\nv0 = in\nshow v0\nshow v0\nv0 = slot 0\nret v0\n",
                6, 1, 1, 1, 1, 1, 1);
    }

    private static void mergesFirstRowFirst() {
        // v2 = v1 goes first; then v3 is JOINED to what stands for both, and v3 = v1 stays. The other way round too.
        given("b0: v1 = in v2 = v1 v3 = v1 v2 = v2 + 1 v3 = v3 + 2 show v2 ret v3", 2, 1,
                "b0:\nv1 = in\nv0 = v1\nv1 = v1 + 1\nv0 = v0 + 2\nshow v1\nret v0\n", 5, 2, 0, 0, 1, 0, 0);
        given("b0: v1 = in v3 = v1 v2 = v1 v2 = v2 + 1 v3 = v3 + 2 show v2 ret v3", 2, 1,
                "b0:\nv1 = in\nv0 = v1\nv0 = v0 + 1\nv1 = v1 + 2\nshow v0\nret v1\n", 5, 2, 0, 0, 1, 0, 0);
        given("b0: v1 = in v2 = v1 v3 = v2 jump b1 b1: v4 = v3 v5 = v4 ret v5", 1, 1,
                "b0:\nv0 = in\njump b1\nb1:\nret v0\n", 1, 1, 0, 0, 4, 0, 0);
    }

    private static void takesTheLeastApart() {
        // v1 is JOINED to v2, v3 and v4, these to v1 alone: v2, v3, v1, v4 go on the pile with K = 2 (v1 has one left).
        given("b0: v1 = in v2 = in show v2 v3 = in show v3 v4 = in show v4 ret v1", 2, 1,
                "b0:\nv1 = in\nv0 = in\nshow v0\nv0 = in\nshow v0\nv0 = in\nshow v0\nret v1\n",
                7, 2, 0, 0, 0, 0, 0);
        // With K = 4 v1 goes first, and gets what the others leave.
        given("b0: v1 = in v2 = in v3 = in show v3 show v2 v4 = in show v4 ret v1", 4, 1,
                "b0:\nv2 = in\nv1 = in\nv0 = in\nshow v0\nshow v1\nv0 = in\nshow v0\nret v2\n",
                7, 3, 0, 0, 0, 0, 0);
    }

    private static void comparesExactly() {
        // v2 (4 for 3) goes before v1 (3 for 2): v2 and v3 are SPILLED in round 1, v1 in round 2.
        given("b0: v3 = in v1 = in show v3 v2 = in show v1 show v1 v4 = in show v4 v5 = in show v5 show v2 show v2"
                + " ret v2", 1, 3,
                "b0:\nv0 = in\nslot 0 = v0\nv0 = in\nslot 1 = v0\nv0 = slot 0\nshow v0\nv0 = in\nslot 0 = v0\n"
                + "v0 = slot 1\nshow v0\nv0 = slot 1\nshow v0\nv0 = in\nshow v0\nv0 = in\nshow v0\n"
                + "v0 = slot 0\nshow v0\nv0 = slot 0\nshow v0\nv0 = slot 0\nret v0\n", 21, 1, 2, 3, 0, 6, 3);
    }

    private static void takesTheLeastOfSeveral() {
        // 2 for 1 each: v1 is SPILLED first and has slot 0.
        given("b0: v2 = in v1 = in show v2 show v1 ret 0", 1, 3,
                "b0:\nv0 = in\nslot 1 = v0\nv0 = in\nslot 0 = v0\nv0 = slot 1\nshow v0\nv0 = slot 0\nshow v0\nret 0\n",
                8, 1, 2, 2, 0, 2, 2);
        // v1 4 for 2, v2 and v3 2 for 1: still v1, the least; round 2 spills v2 and v3.
        given("b0: v1 = in v2 = in show v2 v3 = in show v3 show v1 show v1 ret v1", 1, 2,
                "b0:\nv0 = in\nslot 0 = v0\nv0 = in\nshow v0\nv0 = in\nshow v0\nv0 = slot 0\nshow v0\nv0 = slot 0\n"
                + "show v0\nv0 = slot 0\nret v0\n", 11, 1, 1, 1, 0, 3, 1);
    }

    private static String liveAtOnce(int n) {
        StringBuilder text = new StringBuilder("b0: ");
        for (int v = 0; v < n; v++) {
            text.append('v').append(v).append(" = in ");
        }
        for (int v = 0; v < n; v++) {
            text.append("show v").append(v).append(' ');
        }
        return text + "ret 0";
    }

    private static void mostRegisters() {
        given(liveAtOnce(32), 32, 1, null, 64, 32, 0, 0, 0, 0, 0);
        // Round 1 spills v0, round 2 v1, since v0's TEMPORARY is alive with the other 32.
        given(liveAtOnce(33), 32, 3, null, 70, 32, 2, 2, 0, 2, 2);
        for (int k : new int[] {0, -1, 33, Integer.MIN_VALUE, Integer.MAX_VALUE}) {
            SpillForge x = Forge.of("b0: ret 1");
            Forge.throwsDue("give(" + k + ")", IllegalArgumentException.class, () -> x.give(k));
        }
    }

    private static void fewestRegisters() {
        given(liveAtOnce(1), 1, 1, "b0:\nv0 = in\nshow v0\nret 0\n", 2, 1, 0, 0, 0, 0, 0);
        // Two OPERANDS that are SPILLED cannot be loaded to one register; with two it can be done.
        String two = "b0: v1 = in v2 = in v3 = v1 + v2 ret v3";
        SpillForge x = given(two, 1, -1, null, 0, 0, 0, 0, 0, 0, 0);
        Forge.throwsDue("list(true) of nothing", IllegalStateException.class, () -> x.list(true));
        Forge.throwsDue("run(true) of nothing", IllegalStateException.class, () -> x.run(true, 5));
        given(two, 2, 1, null, 3, 2, 0, 0, 0, 0, 0);
        // A number in place of one of them, or the same one twice, needs one register.
        given("b0: v1 = in v2 = in v3 = v1 + 2 show v2 ret v3", 1, 3, null, 10, 1, 2, 3, 0, 3, 3);
        given("b0: v1 = in v2 = in v3 = v1 + v1 show v2 ret v3", 1, 3, null, 10, 1, 2, 3, 0, 3, 3);
    }

    private static void spillsEnds() {
        // v1 is in a slot, and each END that uses it loads it.
        given("b0: v1 = in v2 = in show v2 if v1 b1 b2 b1: v2 = in show v2 ret v1 b2: show v1 v2 = in show v2 ret v2",
                1, 2,
                "b0:\nv0 = in\nslot 0 = v0\nv0 = in\nshow v0\nv0 = slot 0\nif v0 b1 b2\nb1:\nv0 = in\nshow v0\n"
                + "v0 = slot 0\nret v0\nb2:\nv0 = slot 0\nshow v0\nv0 = in\nshow v0\nret v0\n",
                12, 1, 1, 1, 0, 3, 1);
    }

    private static void loadsOnceForBoth() {
        // v1 (6 for 2) is SPILLED, v2 and v3 are 7 for 2 each.
        given("b0: v1 = in v2 = in v3 = in " + Forge.times(6, "show v3 ") + Forge.times(6, "show v2 ")
                + "v1 = v1 * v1 show v1 ret v1", 2, 2,
                "b0:\nv0 = in\nslot 0 = v0\nv1 = in\nv0 = in\n" + Forge.times(6, "show v0\n")
                + Forge.times(6, "show v1\n") + "v0 = slot 0\nv0 = v0 * v0\nslot 0 = v0\nv0 = slot 0\nshow v0\n"
                + "v0 = slot 0\nret v0\n", 22, 2, 1, 1, 0, 3, 2);
    }

    private static void loadsInOrder() {
        // v1 and v2 (slots 0 and 1) are SPILLED at once: loaded as the OPERANDS stand, which makes them v100 and v101.
        given("b0: v1 = in v2 = in v8 = in v9 = in " + Forge.times(6, "show v8 ") + Forge.times(6, "show v9 ")
                + "v3 = v2 - v1 ret v3", 2, 2,
                "b0:\nv0 = in\nslot 0 = v0\nv0 = in\nslot 1 = v0\nv1 = in\nv0 = in\n" + Forge.times(6, "show v1\n")
                + Forge.times(6, "show v0\n") + "v1 = slot 1\nv0 = slot 0\nv0 = v1 - v0\nret v0\n",
                21, 2, 2, 2, 0, 2, 2);
    }

    private static void sharesSlots() {
        // Round 1 spills v1 and v3 (slots 0 and 1), round 2 v2 and v4 (2 and 3): 0 and 1 are one, 2 and 3 are one.
        String half = "v0 = in\nslot 0 = v0\nv0 = in\nslot 1 = v0\nv0 = slot 0\nshow v0\nv0 = slot 1\nshow v0\n";
        given("b0: v1 = in v2 = in show v1 show v2 v3 = in v4 = in show v3 show v4 ret 0", 1, 3,
                "b0:\n" + half + half + "ret 0\n", 16, 1, 2, 4, 0, 4, 4);
        // A store behind which another slot is LIVE joins the two, even if the stored one is not LIVE itself.
        given("b0: v1 = in v2 = in show v1 v2 = in v3 = in show v3 show v3 show v2 ret 0", 1, 3,
                "b0:\nv0 = in\nslot 1 = v0\nv0 = in\nslot 0 = v0\nv0 = slot 1\nshow v0\nv0 = in\nslot 0 = v0\n"
                + "v0 = in\nshow v0\nshow v0\nv0 = slot 0\nshow v0\nret 0\n", 13, 1, 2, 2, 0, 2, 3);
    }

    /** The chain of copies whose registers, n of them, are SPILLED one in each ROUND with two colours. */
    private static String chain(int n) {
        // v98 and v0 keep the copies from being merged; v0 is dear, since loops use it; v99 is the first SPILLED one.
        StringBuilder text = new StringBuilder("b0: v98 = in ");
        for (int v = 1; v <= n; v++) {
            text.append('v').append(v).append(" = 1 ");
        }
        text.append("show v98 v0 = in v99 = in v1 = in show v99 ");
        for (int v = 1; v < n; v++) {
            text.append('v').append(v + 1).append(" = v").append(v).append(" show v").append(v).append(' ');
        }
        return text.append("show v").append(n).append(" jump b1 b1: jump b2 b2: jump b3 b3: v0 = v0 + v0 if v0 b3 b4")
                .append(" b4: if v0 b2 b5 b5: if v0 b1 b6 b6: ret v0").toString();
    }

    private static void fortyRounds() {
        for (int n = 1; n <= 38; n++) {
            given(chain(n), 2, n + 2, null, 3 * n + 6 + 4 * n + 1, 2, 2, n + 1, 0, 2 * n, 2 * n + 1);
        }
        SpillForge x = given(chain(39), 2, -1, null, 0, 0, 0, 0, 0, 0, 0);
        Forge.throwsDue("nothing is given out then", IllegalStateException.class, () -> x.run(true, 5));
        given(chain(39), 3, 1, null, 85, 3, 0, 0, 38, 0, 0);
    }

    private static void allHundredRegisters() {
        String text = showAll() + "ret 0";
        looks(text, 0, Forge.times(100, "2 ") + "-");
        looks(text, 1, Forge.times(100, "99 ") + "-");
        looks(text, 2, "100 -");
        // Round 1 spills v0 to v67, round 2 v68, since a TEMPORARY is alive with the other 32.
        given(text, 32, 3, null, 338, 32, 69, 69, 0, 69, 69);
        given(text, 1, 3, null, 400, 1, 100, 100, 0, 100, 100);
    }

    private static String showAll() {
        StringBuilder text = new StringBuilder("b0: ");
        for (int v = 0; v < 100; v++) {
            text.append("show v").append(v).append(' ');
        }
        return text.toString();
    }

    private static void crowds() {
        for (int dear : new int[] {0, 1, 31, 32, 33, 62, 63, 64, 67, 68}) {
            StringBuilder text = new StringBuilder(showAll());
            for (int v = dear; v < dear + 32; v++) {
                text.append("show v").append(v).append(' ');
            }
            // Round 1 spills all but the 32 dear ones, round 2 the first of these.
            listed(text + "ret 0", 32, 371, 32, 69, 69, 0, 70, 69);
        }
    }

    /** All places for registers are used, all registers are alive everywhere, and all are SPILLED. */
    private static String largest() {
        StringBuilder text = new StringBuilder();
        for (int b = 0; b < 40; b++) {
            text.append('b').append(b).append(":\n");
            for (int n = 0; n < 4; n++) {
                int v = (4 * b + n) % 100;
                text.append('v').append(v).append(" = v").append(v).append(" + v").append((v + 50) % 100).append('\n');
            }
            text.append("if v").append(b).append(" b").append(1 + b % 39).append(" b").append(1 + (b + 7) % 39)
                    .append('\n');
        }
        return text.toString();
    }

    private static void largestProgram() {
        listed(largest(), 2, 160 + 100 + 360 + 260, 2, 100, 100, 0, 360, 260);
    }

    /** Too long for one object's calls and for a test's line: the listing is the oracle's. */
    private static void listed(String text, int k, int... counts) {
        Oracle oracle = new Oracle();
        oracle.read(Forge.bytes(text));
        Forge.due("the oracle's ROUNDS of " + text, oracle.give(k), 3);
        String listing = Oracle.listing(oracle.given);
        int slice = 2000;
        for (int from = 0; from < listing.length(); from += slice) {
            SpillForge x = given(text, k, 3, null, counts);
            Forge.due("the listing's length of " + text, x.list(true), listing.length());
            int to = Math.min(from + slice, listing.length());
            Forge.due("the listing of " + text, Forge.result(x, from, to), listing.substring(from, to));
        }
    }

    private static void givesOfWhatWasRead() {
        SpillForge x = Forge.of(liveAtOnce(5));
        x.give(8);
        String eight = Forge.list(x, true);
        x.give(1);
        x.give(8);
        Forge.due("give behind another give", Forge.list(x, true), eight);
        Forge.due("counts of the latest give", x.count(7) + " " + x.count(8) + " " + x.count(10), "0 0 0");
        SpillForge y = Forge.of("b0: v7 = in v8 = v7 show v8 v1 = in v2 = in v3 = v1 + v2 show v1 show v2 ret v3");
        for (int n = 0; n < 3; n++) {
            Forge.due("give(2)", y.give(2), 3);
            Forge.due("SLOTS", y.count(7), 2);
            Forge.due("SPILLED", y.count(8), 2);
            Forge.due("merged", y.count(9), 1);
        }
    }

    private static void countsWithoutRegisters() {
        given("b0: show 1 ret 2", 1, 1, "b0:\nshow 1\nret 2\n", 1, 0, 0, 0, 0, 0, 0);
        given("b0: ret 2", 32, 1, "b0:\nret 2\n", 0, 0, 0, 0, 0, 0, 0);
        given("b0: ret 2 b1: ret v9", 1, 1, "b0:\nret 2\nb1:\nret v0\n", 0, 1, 0, 0, 0, 0, 0);
        given("b0: v99 = 3 ret 2", 32, 1, "b0:\nv0 = 3\nret 2\n", 1, 1, 0, 0, 0, 0, 0);
    }
}
