import java.util.NoSuchElementException;

/** Each promise by examples that were worked out by hand from the document. */
public final class PromiseTest {
    private static final Class<IllegalArgumentException> ARGUMENT = IllegalArgumentException.class;
    private static final Class<IllegalStateException> STATE = IllegalStateException.class;
    private static final Class<IndexOutOfBoundsException> INDEX = IndexOutOfBoundsException.class;
    private static final Class<NoSuchElementException> ELEMENT = NoSuchElementException.class;

    private PromiseTest() {
    }

    public static void main(String[] args) {
        newObject();
        feed();
        end();
        rightTexts();
        minusSigns();
        wrongSigns();
        brokenRules();
        textKeepsAndTakesAway();
        input();
        giveWithoutSpilling();
        giveWithMerging();
        giveWithSpilling();
        giveSharesSlots();
        giveThatCannotBeDone();
        giveThrows();
        count();
        look();
        depths();
        run();
        runEnds();
        told();
        shown();
        list();
        word();
        Forge.close("PromiseTest");
    }

    private static void newObject() {
        SpillForge x = new SpillForge();
        for (int what = 0; what <= 11; what++) {
            Forge.due("new count(" + what + ")", x.count(what), 0);
        }
        Forge.due("new told", Forge.told(x), "0 0 0 0 -1");
        Forge.throwsDue("new give", STATE, () -> x.give(1));
        Forge.throwsDue("new look", STATE, () -> x.look(0, 0));
        Forge.throwsDue("new run", STATE, () -> x.run(false, 1));
        Forge.throwsDue("new run given", STATE, () -> x.run(true, 1));
        Forge.throwsDue("new list", STATE, () -> x.list(false));
        Forge.throwsDue("new list given", STATE, () -> x.list(true));
        Forge.throwsDue("new word", INDEX, () -> x.word(0));
        Forge.throwsDue("new shown", INDEX, () -> x.shown(0));
        Forge.read(x, "b0: v1 = in ret v1");
        x.run(false, 9);
        Forge.due("new input is empty", Forge.told(x), "0 0 2 0 0");
    }

    private static void feed() {
        SpillForge x = new SpillForge();
        Forge.due("feed", x.feed(0x62303a20, 0x72657420, 0x2d313233, 0x0a202020, 0x20202020), 20);
        Forge.due("feed count", x.count(3), 20);
        Forge.due("feed text", x.text(), -1);
        Forge.due("feed order of bytes", Forge.list(x, false), "b0:\nret -123\n");
        for (int n = 1; n <= 409; n++) {
            Forge.due("feed " + n, x.feed(n, 0, 0, 0, -1), 20 * n);
        }
        Forge.throwsDue("feed above 8192", INDEX, () -> x.feed(0, 0, 0, 0, 0));
        Forge.due("feed above 8192 changes nothing", x.count(3), 8180);
        x.end(8173);
        Forge.throwsDue("feed to 8193", INDEX, () -> x.feed(0, 0, 0, 0, 0));
        x.end(8172);
        Forge.due("feed to 8192", x.feed(0, 0, 0, 0, 0), 8192);
        Forge.throwsDue("feed at 8192", INDEX, () -> x.feed(0, 0, 0, 0, 0));
        Forge.due("feed all as input", x.input(), 2048);
    }

    private static void end() {
        SpillForge x = new SpillForge();
        Forge.due("end(0) of an empty tape", x.end(0), 0);
        Forge.throwsDue("end(1) of an empty tape", ARGUMENT, () -> x.end(1));
        x.feed(0, 0, 0, 0, 0);
        Forge.throwsDue("end(21)", ARGUMENT, () -> x.end(21));
        Forge.throwsDue("end(-1)", ARGUMENT, () -> x.end(-1));
        Forge.throwsDue("end(least)", ARGUMENT, () -> x.end(Integer.MIN_VALUE));
        Forge.due("end that throws changes nothing", x.count(3), 20);
        Forge.due("end(20)", x.end(20), 20);
        Forge.due("end(7)", x.end(7), 7);
        Forge.due("end count", x.count(3), 7);
        Forge.throwsDue("end(8)", ARGUMENT, () -> x.end(8));
        Forge.due("end(0)", x.end(0), 0);
    }

    private static void rightTexts() {
        Forge.right("b0:ret 1", "b0:\nret 1\n");
        Forge.right("\t\r\n b0\t:\r\n ret\n1 ", "b0:\nret 1\n");
        Forge.right("; v1\nb0;:\n:;\nret;x\n1;the end", "b0:\nret 1\n");
        Forge.right("b0:v1=v2v3=4show v1show5ret v3b1:ret 1b2:ret2",
                "b0:\nv1 = v2\nv3 = 4\nshow v1\nshow 5\nret v3\nb1:\nret 1\nb2:\nret 2\n");
        Forge.right("b0: v1=v2+v3 v1=v2*3 v1=4/v3 v1=v2%v3 v1=v2&v3 v1=v2|v3 v1=v2^v3 jump b1 b1: ret v1",
                "b0:\nv1 = v2 + v3\nv1 = v2 * 3\nv1 = 4 / v3\nv1 = v2 % v3\nv1 = v2 & v3\nv1 = v2 | v3\n"
                + "v1 = v2 ^ v3\njump b1\nb1:\nret v1\n");
        Forge.right("b0: v1=v2<<v3 v1=v2>>v3 v1=v2<v3 v1=v2<=v3 v1=v2==v3 v1=v2!=v3 v0=in if v1b1b1 b1:ret 0",
                "b0:\nv1 = v2 << v3\nv1 = v2 >> v3\nv1 = v2 < v3\nv1 = v2 <= v3\nv1 = v2 == v3\nv1 = v2 != v3\n"
                + "v0 = in\nif v1 b1 b1\nb1:\nret 0\n");
        Forge.right("b00: v00099 = 2147483647 v007 = -2147483648 v1 = -0 ret 000000000000000000012",
                "b0:\nv99 = 2147483647\nv7 = -2147483648\nv1 = 0\nret 12\n");
        StringBuilder most = new StringBuilder("b0:");
        for (int n = 0; n < 160; n++) {
            most.append("show ").append(n % 10).append('\n');
        }
        for (int n = 0; n < 39; n++) {
            most.append("jump b").append(n + 1).append(" b").append(n + 1).append(':');
        }
        SpillForge x = Forge.of(most + "ret 1");
        Forge.due("most blocks", x.count(0), 40);
        Forge.due("most rows", x.count(1), 160);
    }

    private static void minusSigns() {
        Forge.right("b0: v1 = v2 -3 v1 = v2-3 v1 = 2-3 v1 = -2 -3 ret -1",
                "b0:\nv1 = v2 - 3\nv1 = v2 - 3\nv1 = 2 - 3\nv1 = -2 - 3\nret -1\n");
        Forge.right("b0: v1 = v2--3 v1 = v2 - -3 v1 = v2 +-3 v1 = v2<-3 show -3 if -3 b1 b1 b1: ret-3",
                "b0:\nv1 = v2 - -3\nv1 = v2 - -3\nv1 = v2 + -3\nv1 = v2 < -3\nshow -3\nif -3 b1 b1\nb1:\nret -3\n");
        Forge.right("b0: v1 = v2 ; a remark\n -3 ret v1", "b0:\nv1 = v2 - 3\nret v1\n");
        Forge.right("b0: v1 = 5 - 2147483647 ret 0", "b0:\nv1 = 5 - 2147483647\nret 0\n");
        Forge.wrong("b0: v1 = - 3 ret v1", 9, 1);
        Forge.wrong("b0: v1 = 5 -2147483648 ret 0", 12, 1);
        Forge.wrong("b0: ret 1 -1", 10, 1);
        Forge.wrong("b0: ret -", 8, 1);
    }

    private static void wrongSigns() {
        Forge.wrong("", 0, 1);
        Forge.wrong("  ; nothing", 11, 1);
        Forge.wrong("b0", 2, 1);
        Forge.wrong("b0: ", 4, 1);
        Forge.wrong("b0: v1", 6, 1);
        Forge.wrong("b0: v1 = v2 ", 12, 1);
        Forge.wrong("b0: v1 = v2 +", 13, 1);
        Forge.wrong("b0: if 1 b0 ;", 13, 1);
        Forge.wrong("ret 1", 0, 1);
        Forge.wrong("b0: ret", 7, 1);
        Forge.wrong("b0: ret 1 ret 2", 10, 1);
        Forge.wrong("b0: ret b0", 8, 1);
        Forge.wrong("b0: jump 1", 9, 1);
        Forge.wrong("b0: v1 == 2", 7, 1);
        Forge.wrong("b0: v1 = show", 9, 1);
        Forge.wrong("b0: v1 = in + 1 ret 1", 12, 1);
        Forge.wrong("b0: show in ret 1", 9, 1);
        Forge.wrong("b0: v1 = v2 > v3", 12, 1);
        Forge.wrong("b0: v1 = v2 >= v3", 12, 1);
        Forge.wrong("b0: v1 = v2 ! v3", 12, 1);
        Forge.wrong("b0: v1 = v2 <<= v3", 14, 1);
        Forge.wrong("b0: v100 = 1", 4, 1);
        Forge.wrong("b0: v99999999999999999999999999 = 1", 4, 1);
        Forge.wrong("b0: jump b40", 9, 1);
        Forge.wrong("b40: ret 1", 0, 1);
        Forge.wrong("b0: ret 2147483648", 8, 1);
        Forge.wrong("b0: ret -2147483649", 8, 1);
        Forge.wrong("b0: ret 18446744073709551617", 8, 1);
        Forge.wrong("b0: retv1", 4, 1);
        Forge.wrong("b0: ret v", 8, 1);
        Forge.wrong("b0: ret b", 8, 1);
        Forge.wrong("b0: ret vv1", 8, 1);
        Forge.wrong("b0: Ret 1", 4, 1);
        Forge.wrong("b0: ret 1\u00e9", 9, 1);
        Forge.wrong("b0: ret 1\u0000", 9, 1);
        Forge.wrong("b0: v1 = v2 retx 1", 12, 1);
        Forge.wrong("b0: jump b0 ; and no sign behind it\n.", 36, 1);
        Forge.wrong("b1: ret 1 b0: jump b0 x", 22, 1);
    }

    private static void brokenRules() {
        Forge.wrong("b1: ret 1", 0, 2);
        Forge.wrong("b0: ret 1 b2: ret 2", 10, 2);
        Forge.wrong("b0: ret 1 b0: ret 2", 10, 2);
        Forge.wrong("b0: jump b1", 9, 3);
        Forge.wrong("b0: jump b0", 9, 3);
        Forge.wrong("b0: if 1 b1 b2 b1: ret 1", 12, 3);
        Forge.wrong("b0: if 1 b1 b0 b1: ret 1", 12, 3);
        Forge.wrong("b0: jump b5 b2: ret 1", 9, 3);
        Forge.wrong("b0: jump b2 b2: ret 1", 12, 2);
        Forge.wrong("b0: jump b1 b3: jump b9 b1: ret 1", 12, 2);
        StringBuilder rows = new StringBuilder("b0:");
        for (int n = 0; n < 161; n++) {
            rows.append("\nv1=v1");
        }
        Forge.wrong(rows + " ret 1", 4 + 160 * 6, 4);
        Forge.wrong(rows + " v2 = 5 show 1 jump b7", 4 + 160 * 6, 4);
        Forge.wrong(rows + " ret 1 b5: ret 1", 4 + 160 * 6, 4);
        Forge.wrong("b0: jump b9 b1:" + rows.substring(3) + " ret 1", 9, 3);
        Forge.wrong("b0: jump b1 b1: jump b1 b1:" + rows.substring(3) + " ret 1", 24, 2);
        Forge.wrong(rows + " ret", rows.length() + 4, 1);
        StringBuilder many = new StringBuilder();
        for (int n = 0; n < 500; n++) {
            many.append("b").append(Math.min(n, 39)).append(": jump b1 ");
        }
        Forge.wrong(many.toString(), 10 * 12 + 30 * 13, 2);
    }

    private static void textKeepsAndTakesAway() {
        SpillForge x = Forge.of("b0: v1 = in show v1 ret 5");
        x.give(2);
        x.run(true, 10);
        String result = Forge.list(x, true);
        Forge.due("wrong text", Forge.read(x, "b0: jump b0"), 9);
        Forge.due("a wrong text leaves no blocks", x.count(0), 0);
        Forge.due("a wrong text leaves no rows", x.count(1), 0);
        Forge.throwsDue("a wrong text leaves nothing to give out", STATE, () -> x.give(2));
        Forge.throwsDue("a wrong text leaves nothing to run", STATE, () -> x.run(false, 2));
        Forge.due("a wrong text keeps what was given out", x.count(5), 2);
        Forge.due("and its listing", Forge.list(x, true), result);
        Forge.due("and its run", x.run(true, 100), 0);
        Forge.due("right text", Forge.read(x, "b0: ret 6"), -1);
        Forge.due("a right text takes away the reason", x.count(2), 0);
        Forge.due("and what was given out", x.count(5), 0);
        Forge.throwsDue("so that nothing is listed", STATE, () -> x.list(true));
        Forge.throwsDue("nor run", STATE, () -> x.run(true, 2));
        Forge.due("RESULT stays", Forge.result(x), result);
        Forge.due("and so does the latest RUN", Forge.told(x), "5 1 3 0 0 0");
    }

    private static void input() {
        SpillForge x = new SpillForge();
        Forge.due("input of nothing", x.input(), 0);
        Forge.due("input", Forge.input(x, 1, -2, Integer.MAX_VALUE, Integer.MIN_VALUE), 4);
        Forge.due("input takes the tape", x.count(3), 0);
        String text = "b0: v1 = in show v1 v1 = in show v1 v1 = in show v1 v1 = in show v1 v1 = in show v1 ret 0";
        Forge.read(x, text);
        x.run(false, 100);
        Forge.due("input told", Forge.told(x), "0 5 11 4 0 1 -2 2147483647 -2147483648 0");
        x.run(false, 100);
        Forge.due("each run begins the input anew", Forge.told(x), "0 5 11 4 0 1 -2 2147483647 -2147483648 0");
        Forge.feed(x, new byte[] {0, 0, 1, 0, 9, 9, 9});
        Forge.due("input of seven bytes", x.input(), 1);
        x.run(false, 100);
        Forge.due("the rest of less goes", Forge.told(x), "0 5 11 1 0 256 0 0 0 0");
        Forge.feed(x, new byte[3]);
        Forge.due("input of three bytes", x.input(), 0);
    }

    private static void counts(String name, SpillForge x, int... want) {
        for (int n = 0; n < want.length; n++) {
            Forge.due(name + " count(" + (5 + n) + ")", x.count(5 + n), want[n]);
        }
    }

    private static void giveWithoutSpilling() {
        SpillForge x = Forge.of("b0: v7 = in v9 = v7 + v3 show v5 ret v9");
        Forge.due("give(3)", x.give(3), 1);
        // v3 and v5 are LIVE first. v3-v5, v7-v3, v7-v5, v9-v5 are JOINED; taken apart v3, v5, v7, v9.
        Forge.due("give(3) list", Forge.list(x, true),
                "b0:\nv2 = 0\nv1 = 0\nv0 = in\nv0 = v0 + v2\nshow v1\nret v0\n");
        counts("give(3)", x, 5, 3, 0, 0, 0, 0, 0);
        Forge.due("the program is still as it was read", Forge.list(x, false),
                "b0:\nv7 = in\nv9 = v7 + v3\nshow v5\nret v9\n");
    }

    private static void giveWithMerging() {
        SpillForge x = Forge.of("b0: v5 = in v3 = v5 v3 = v3 show v3 ret v3");
        Forge.due("merging", x.give(1), 1);
        Forge.due("merging list", Forge.list(x, true), "b0:\nv0 = in\nshow v0\nret v0\n");
        counts("merging", x, 2, 1, 0, 0, 2, 0, 0);
        // v2 is used behind the copy while v1 is changed: they are JOINED and stay two.
        x = Forge.of("b0: v2 = in v1 = v2 v1 = v1 + 1 show v2 ret v1");
        Forge.due("joined copy", x.give(2), 1);
        Forge.due("joined copy list", Forge.list(x, true),
                "b0:\nv0 = in\nv1 = v0\nv1 = v1 + 1\nshow v0\nret v1\n");
        counts("joined copy", x, 4, 2, 0, 0, 0, 0, 0);
        // A number is not merged, and colours may make a copy of one register to itself that stays.
        x = Forge.of("b0: v2 = 4 v1 = v2 show v2 show v1 v4 = v1 ret v4");
        x.give(4);
        Forge.due("copies in a row", Forge.list(x, true), "b0:\nv0 = 4\nshow v0\nshow v0\nret v0\n");
    }

    private static void giveWithSpilling() {
        SpillForge x = Forge.of("b0: v1 = in v2 = in v3 = v1 + v2 show v1 show v2 ret v3");
        Forge.due("give(3) needs no slot", x.give(3), 1);
        counts("give(3)", x, 5, 3, 0, 0, 0, 0, 0);
        // Round 1 spills v3 (2 of WEIGHT for 2), round 2 v1, round 3 none.
        Forge.due("give(2)", x.give(2), 3);
        Forge.due("give(2) list", Forge.list(x, true),
                "b0:\nv0 = in\nslot 1 = v0\nv1 = in\nv0 = slot 1\nv0 = v0 + v1\nslot 0 = v0\nv0 = slot 1\n"
                + "show v0\nshow v1\nv0 = slot 0\nret v0\n");
        counts("give(2)", x, 10, 2, 2, 2, 0, 3, 2);
        Forge.input(x, 40, 2);
        x.run(false, 100);
        Forge.due("as read", Forge.told(x), "42 2 6 2 0 40 2");
        x.run(true, 100);
        Forge.due("as given out", Forge.told(x), "42 2 11 2 0 40 2");
        // One load for both OPERANDS, and another TEMPORARY for what is set.
        x = Forge.of("b0: v1 = in v2 = in v1 = v1 * v1 show v2 show v2 show v2 ret v1");
        // Round 1 spills v2 (4 of WEIGHT against 5), round 2 v1, since no TEMPORARY goes before it.
        Forge.due("give(1)", x.give(1), 3);
        Forge.due("give(1) list", Forge.list(x, true),
                "b0:\nv0 = in\nslot 1 = v0\nv0 = in\nslot 0 = v0\nv0 = slot 1\nv0 = v0 * v0\nslot 1 = v0\n"
                + "v0 = slot 0\nshow v0\nv0 = slot 0\nshow v0\nv0 = slot 0\nshow v0\nv0 = slot 1\nret v0\n");
        counts("give(1)", x, 14, 1, 2, 2, 0, 5, 3);
    }

    private static void giveSharesSlots() {
        SpillForge x = Forge.of("b0: v1 = in v2 = in show v1 show v1 show v2 show v2 show v2"
                + " v3 = in v4 = in show v3 show v3 show v4 show v4 show v4 ret 0");
        // Round 1 spills v1 and v3 (slots 0 and 1), round 2 v2 and v4 (2 and 3); 0 and 1 are one, 2 and 3 too.
        Forge.due("shared slots", x.give(1), 3);
        String half = "v0 = in\nslot 0 = v0\nv0 = in\nslot 1 = v0\nv0 = slot 0\nshow v0\nv0 = slot 0\nshow v0\n"
                + "v0 = slot 1\nshow v0\nv0 = slot 1\nshow v0\nv0 = slot 1\nshow v0\n";
        Forge.due("shared slots list", Forge.list(x, true), "b0:\n" + half + half + "ret 0\n");
        counts("shared slots", x, 28, 1, 2, 4, 0, 10, 4);
    }

    private static void giveThatCannotBeDone() {
        SpillForge x = Forge.of("b0: v1 = in v2 = in v3 = v1 + v2 ret v3");
        Forge.due("give(2)", x.give(2), 1);
        Forge.due("give(1) of two operands", x.give(1), -1);
        counts("nothing is given out", x, 0, 0, 0, 0, 0, 0, 0);
        Forge.throwsDue("nothing to list", STATE, () -> x.list(true));
        Forge.throwsDue("nothing to run", STATE, () -> x.run(true, 1));
        Forge.due("the program stays", x.run(false, 10), 0);
        Forge.due("give(2) again", x.give(2), 1);
    }

    private static void giveThrows() {
        SpillForge x = new SpillForge();
        Forge.throwsDue("give(0) first", ARGUMENT, () -> x.give(0));
        Forge.throwsDue("give(33) first", ARGUMENT, () -> x.give(33));
        Forge.throwsDue("give(32) without a program", STATE, () -> x.give(32));
        Forge.read(x, "b0: v1 = 2 ret v1");
        Forge.due("give(32)", x.give(32), 1);
        Forge.throwsDue("give(0)", ARGUMENT, () -> x.give(0));
        Forge.throwsDue("give(33)", ARGUMENT, () -> x.give(33));
        Forge.throwsDue("give(-1)", ARGUMENT, () -> x.give(-1));
        Forge.due("a give that throws changes nothing", x.count(5), 1);
    }

    private static void count() {
        SpillForge x = Forge.of("b0: v1 = 2 show v1 jump b1 b1: ret v1");
        Forge.due("count(0)", x.count(0), 2);
        Forge.due("count(1)", x.count(1), 2);
        x.feed(0, 0, 0, 0, 0);
        Forge.due("count(3)", x.count(3), 20);
        x.list(false);
        Forge.due("count(4)", x.count(4), "b0:\nv1 = 2\nshow v1\njump b1\nb1:\nret v1\n".length());
        Forge.throwsDue("count(12)", ARGUMENT, () -> x.count(12));
        Forge.throwsDue("count(-1)", ARGUMENT, () -> x.count(-1));
        Forge.throwsDue("count(most)", ARGUMENT, () -> x.count(Integer.MAX_VALUE));
    }

    private static void look() {
        SpillForge x = new SpillForge();
        Forge.throwsDue("look(0, 9) without a program", STATE, () -> x.look(0, 9));
        Forge.read(x, "b0: v1 = v1 + v1 v2 = v3 show v3 jump b1 "
                + "b1: v2 = v2 - 1 if v2 b1 b2 b2: ret v1 b3: show v50 ret v1");
        // v1 and v3 get a ROW v = 0 in front.
        Forge.due("look(1, 0)", x.look(1, 0), 6);
        Forge.due("look(2, 0)", x.look(2, 0), 31);
        Forge.due("look(3, 0)", x.look(3, 0), 3);
        Forge.due("look(50, 0)", x.look(50, 0), 1);
        Forge.due("look(1, 1)", x.look(1, 1), 2);
        Forge.due("look(2, 1): a copy does not join", x.look(2, 1), 1);
        Forge.due("look(3, 1)", x.look(3, 1), 1);
        Forge.due("look(50, 1)", x.look(50, 1), 0);
        Forge.due("look(0, 2)", x.look(0, 2), 2);
        Forge.due("look(1, 2)", x.look(1, 2), 2);
        Forge.due("look(2, 2)", x.look(2, 2), 1);
        Forge.due("look(3, 2)", x.look(3, 2), 2);
        Forge.due("look(0, 3)", x.look(0, 3), 0);
        Forge.due("look(1, 3)", x.look(1, 3), 1);
        Forge.throwsDue("look(0, 4) is an argument first", ARGUMENT, () -> x.look(-1, 4));
        Forge.throwsDue("look(0, -1)", ARGUMENT, () -> x.look(1, -1));
        Forge.throwsDue("look(0, 0)", ELEMENT, () -> x.look(0, 0));
        Forge.throwsDue("look(4, 1)", ELEMENT, () -> x.look(4, 1));
        Forge.throwsDue("look(-1, 0)", ELEMENT, () -> x.look(-1, 0));
        Forge.throwsDue("look(100, 1)", ELEMENT, () -> x.look(100, 1));
        Forge.throwsDue("look(4, 2)", ELEMENT, () -> x.look(4, 2));
        Forge.throwsDue("look(-1, 3)", ELEMENT, () -> x.look(-1, 3));
        x.give(2);
        Forge.due("look(1, 0) behind give", x.look(1, 0), 6);
    }

    private static void depthsOf(String text, String want) {
        SpillForge x = Forge.of(text);
        StringBuilder got = new StringBuilder();
        for (int b = 0; b < x.count(0); b++) {
            got.append(x.look(b, 3));
        }
        Forge.due("depths of " + text, got, want);
    }

    private static void depths() {
        depthsOf("b0: ret 1", "0");
        depthsOf("b0: jump b1 b1: if 1 b1 b2 b2: ret 1", "010");
        depthsOf("b0: jump b1 b1: if 1 b2 b3 b2: jump b1 b3: ret 1", "0110");
        depthsOf("b0: jump b1 b1: if 1 b2 b3 b2: if 1 b1 b3 b3: jump b1", "0111");
        // Two ways into a ring: no head.
        depthsOf("b0: if 1 b1 b2 b1: jump b2 b2: jump b1", "000");
        // A loop that is not reached is none, and its way into another loop is none of it.
        depthsOf("b0: jump b1 b1: if 1 b1 b4 b2: jump b3 b3: if 1 b2 b1 b4: ret 1", "01000");
        // Two ways back to one head are one loop; five heads in one another count four.
        depthsOf("b0: jump b1 b1: if 1 b2 b3 b2: jump b1 b3: jump b1", "0111");
        depthsOf("b0: jump b1 b1: jump b2 b2: jump b3 b3: jump b4 b4: jump b5 b5: if 1 b5 b6 b6: if 1 b4 b7"
                + " b7: if 1 b3 b8 b8: if 1 b2 b9 b9: if 1 b1 b10 b10: ret 1", "01234443210");
        SpillForge x = Forge.of("b0: jump b1 b1: jump b2 b2: jump b3 b3: jump b4 b4: v1 = v1 + 1 if v1 b4 b5"
                + " b5: if 1 b3 b6 b6: if 1 b2 b7 b7: if 1 b1 b8 b8: ret 1");
        Forge.due("WEIGHT in the deepest loop", x.look(1, 0), 30001);
    }

    private static void calculated(String calculation, int want) {
        SpillForge x = Forge.of("b0: v1 = " + calculation + " ret v1");
        Forge.due("run of " + calculation, x.run(false, 2), 0);
        Forge.due("answer of " + calculation, x.told(0), want);
    }

    private static void run() {
        calculated("2147483647 + 1", Integer.MIN_VALUE);
        calculated("-2147483648 - 1", Integer.MAX_VALUE);
        calculated("65536 * 65537", 65536);
        calculated("-7 / 2", -3);
        calculated("-7 % 2", -1);
        calculated("7 % -2", 1);
        calculated("-2147483648 / -1", Integer.MIN_VALUE);
        calculated("-2147483648 % -1", 0);
        calculated("12 & 10", 8);
        calculated("12 | 10", 14);
        calculated("12 ^ 10", 6);
        calculated("1 << 33", 2);
        calculated("1 << -1", Integer.MIN_VALUE);
        calculated("-8 >> 1", -4);
        calculated("-8 >> 32", -8);
        calculated("1 < 2", 1);
        calculated("2 < 2", 0);
        calculated("2 <= 2", 1);
        calculated("3 <= 2", 0);
        calculated("2 == 2", 1);
        calculated("2 == 3", 0);
        calculated("2 != 3", 1);
        calculated("2 != 2", 0);
        calculated("v2", 0);
        SpillForge x = Forge.of("b0: v1 = 5 jump b1 b1: v2 = v2 + v1 v1 = v1 - 1 show v1 if v1 b1 b2 b2: ret v2");
        x.run(false, 1000);
        Forge.due("a loop", Forge.told(x), "15 5 23 0 0 4 3 2 1 0");
        x.give(2);
        x.run(true, 1000);
        Forge.due("a loop as given out", Forge.told(x), "15 5 24 0 0 4 3 2 1 0");
        Forge.throwsDue("run(false, 0)", ARGUMENT, () -> x.run(false, 0));
        Forge.throwsDue("run(true, 100001)", ARGUMENT, () -> x.run(true, 100001));
        Forge.throwsDue("run(true, -1)", ARGUMENT, () -> x.run(true, -1));
        Forge.due("a run that throws changes nothing", Forge.told(x), "15 5 24 0 0 4 3 2 1 0");
        SpillForge none = new SpillForge();
        Forge.throwsDue("run(false, 0) without a program", ARGUMENT, () -> none.run(false, 0));
        Forge.throwsDue("run(false, 1) without a program", STATE, () -> none.run(false, 1));
    }

    private static void runEnds() {
        SpillForge x = Forge.of("b0: show 3 v1 = 1 / v2 show 4 ret 5");
        Forge.due("by 0", x.run(false, 9), 1);
        Forge.due("by 0 told", Forge.told(x), "0 1 2 0 1 3");
        x = Forge.of("b0: v1 = 1 % 0 ret 5");
        Forge.due("rest by 0", x.run(false, 9), 1);
        x = Forge.of("b0: show 3 ret 5");
        Forge.due("too little fuel", x.run(false, 1), 4);
        Forge.due("too little fuel told", Forge.told(x), "0 1 1 0 4 3");
        Forge.due("just enough fuel", x.run(false, 2), 0);
        Forge.due("just enough fuel told", Forge.told(x), "5 1 2 0 0 3");
        x = Forge.of("b0: jump b1 b1: jump b1");
        Forge.due("without an end", x.run(false, 100000), 4);
        Forge.due("without an end told", Forge.told(x), "0 0 100000 0 4");
        x = Forge.of("b0: jump b1 b1: v1 = v1 + 1 show v1 v2 = v1 < 512 if v2 b1 b2 b2: ret v1");
        Forge.due("512 shows", x.run(false, 100000), 0);
        Forge.due("512 shows told", x.told(1), 512);
        x = Forge.of("b0: jump b1 b1: v1 = v1 + 1 show v1 jump b1");
        Forge.due("513 shows", x.run(false, 100000), 5);
        Forge.due("513 shows told(0)", x.told(0), 0);
        Forge.due("513 shows told(1)", x.told(1), 512);
        Forge.due("513 shows told(2)", x.told(2), 1 + 3 * 512 + 2);
        Forge.due("513 shows told(4)", x.told(4), 5);
        Forge.due("513 shows shown(511)", x.shown(511), 512);
        x = Forge.of("b0: if 0 b1 b2 b1: ret 1 b2: if -5 b3 b1 b3: ret 3");
        x.run(false, 9);
        Forge.due("if", Forge.told(x), "3 0 3 0 0");
    }

    private static void told() {
        SpillForge x = Forge.of("b0: ret 1");
        Forge.throwsDue("told(5)", ARGUMENT, () -> x.told(5));
        Forge.throwsDue("told(-1)", ARGUMENT, () -> x.told(-1));
        Forge.due("told(4) before any run", x.told(4), -1);
    }

    private static void shown() {
        SpillForge x = Forge.of("b0: show 7 show -8 ret 1");
        Forge.throwsDue("shown(0) before any run", INDEX, () -> x.shown(0));
        x.run(false, 10);
        Forge.due("shown(0)", x.shown(0), 7);
        Forge.due("shown(1)", x.shown(1), -8);
        Forge.throwsDue("shown(2)", INDEX, () -> x.shown(2));
        Forge.throwsDue("shown(-1)", INDEX, () -> x.shown(-1));
        x.run(false, 1);
        Forge.throwsDue("shown(1) of a shorter run", INDEX, () -> x.shown(1));
    }

    private static void list() {
        SpillForge x = Forge.of("b0: ret 1");
        Forge.due("list(false)", x.list(false), 10);
        Forge.throwsDue("list(true)", STATE, () -> x.list(true));
        Forge.due("a list that throws changes nothing", Forge.result(x), "b0:\nret 1\n");
        x.give(1);
        Forge.due("give changes no RESULT", x.count(4), 10);
        Forge.due("list(true)", x.list(true), 10);
    }

    private static void word() {
        SpillForge x = Forge.of("b0: ret 123");
        Forge.throwsDue("word(0) before any list", INDEX, () -> x.word(0));
        x.list(false);
        Forge.due("word(0)", x.word(0), 0x62303a0a72657420L);
        Forge.due("word(4)", x.word(4), 0x726574203132330aL);
        Forge.due("word(5)", x.word(5), 0x6574203132330a00L);
        Forge.due("word(11)", x.word(11), 0x0a00000000000000L);
        Forge.throwsDue("word(12)", INDEX, () -> x.word(12));
        Forge.throwsDue("word(-1)", INDEX, () -> x.word(-1));
        Forge.throwsDue("word(most)", INDEX, () -> x.word(Integer.MAX_VALUE));
    }
}
