import java.util.NoSuchElementException;

/** What each call refuses, with which exception, in which order, and that what throws changes nothing. */
public final class StateEdgesTest {
    private static final int LEAST = Integer.MIN_VALUE;
    private static final int MOST = Integer.MAX_VALUE;
    private static final Class<IllegalArgumentException> ARGUMENT = IllegalArgumentException.class;
    private static final Class<IllegalStateException> STATE = IllegalStateException.class;
    private static final Class<IndexOutOfBoundsException> INDEX = IndexOutOfBoundsException.class;
    private static final Class<NoSuchElementException> ELEMENT = NoSuchElementException.class;

    private interface Act {
        Object on(SpillForge x);
    }

    private enum State { NEW, READ, GIVEN, WRONG_BEHIND_GIVEN, NOT_GIVEN }

    private StateEdgesTest() {
    }

    public static void main(String[] args) {
        for (State state : State.values()) {
            refusesArguments(state);
            refusesIndices(state);
            refusesLooks(state);
            refusesWithoutProgram(state);
            refusesWithoutGiven(state);
            asksChangeNothing(state);
        }
        newObject();
        orderOfExceptions();
        countEdges();
        lookEdges();
        rightTextTakesAway();
        wrongTextLeavesNoProgram();
        giveInPlaceOfTheOneBefore();
        resultIsTheLatest();
        wordEdges();
        twoObjects();
        textsBehindOneAnother();
        Forge.close("StateEdgesTest");
    }

    /** An object with something on the tape, in one of the states. */
    private static SpillForge make(State state) {
        SpillForge x = new SpillForge();
        if (state != State.NEW) {
            Forge.input(x, 30, 12);
            Forge.read(x, "b0: v1 = in v2 = in v3 = v1 + v2 show v1 show v2 ret v3");
            x.run(false, 100);
            x.list(false);
        }
        if (state == State.GIVEN || state == State.WRONG_BEHIND_GIVEN) {
            x.give(2);
            x.run(true, 100);
            x.list(true);
        }
        if (state == State.WRONG_BEHIND_GIVEN) {
            Forge.read(x, "b0: jump b0");
        }
        if (state == State.NOT_GIVEN) {
            x.give(1);
        }
        Forge.feed(x, Forge.bytes("b0: v4 = in ret v4"));
        return x;
    }

    private static boolean hasProgram(State state) {
        return state == State.READ || state == State.GIVEN || state == State.NOT_GIVEN;
    }

    private static boolean hasGiven(State state) {
        return state == State.GIVEN || state == State.WRONG_BEHIND_GIVEN;
    }

    /** All that an object tells, first without changing it, then with calls that use its tape and its input. */
    private static String trace(SpillForge x) {
        StringBuilder all = new StringBuilder();
        for (int what = 0; what <= 11; what++) {
            all.append(x.count(what)).append(' ');
        }
        all.append(Forge.told(x)).append('\n').append(Forge.result(x));
        for (int v = 0; v <= 4; v++) {
            for (int what = 0; what <= 3; what++) {
                int register = v;
                int asked = what;
                all.append(Forge.answer(() -> x.look(register, asked))).append(' ');
            }
        }
        all.append('\n').append(Forge.answer(() -> Forge.list(x, false)));
        all.append('\n').append(Forge.answer(() -> Forge.list(x, true)));
        all.append('\n').append(Forge.answer(() -> x.run(false, 50))).append(' ').append(Forge.told(x));
        all.append('\n').append(Forge.answer(() -> x.run(true, 50))).append(' ').append(Forge.told(x));
        all.append('\n').append(x.text()).append(' ').append(x.count(2)).append(' ').append(Forge.list(x, false));
        all.append(x.run(false, 50)).append(' ').append(Forge.told(x));
        return all.toString();
    }

    private static void refused(State state, String name, Class<? extends RuntimeException> kind, Act act) {
        SpillForge x = make(state);
        Forge.throwsDue(state + " " + name, kind, () -> act.on(x));
        Forge.due(state + " " + name + " changes nothing", trace(x), trace(make(state)));
    }

    private static void refusesArguments(State state) {
        for (int n : new int[] {-1, 19, LEAST, MOST}) {
            refused(state, "end(" + n + ")", ARGUMENT, x -> x.end(n));
        }
        for (int k : new int[] {0, -1, 33, LEAST, MOST}) {
            refused(state, "give(" + k + ")", ARGUMENT, x -> x.give(k));
        }
        for (int what : new int[] {-1, 12, LEAST, MOST}) {
            refused(state, "count(" + what + ")", ARGUMENT, x -> x.count(what));
        }
        for (int fuel : new int[] {0, -1, 100001, LEAST, MOST}) {
            refused(state, "run(false, " + fuel + ")", ARGUMENT, x -> x.run(false, fuel));
            refused(state, "run(true, " + fuel + ")", ARGUMENT, x -> x.run(true, fuel));
        }
        for (int what : new int[] {-1, 5, LEAST, MOST}) {
            refused(state, "told(" + what + ")", ARGUMENT, x -> x.told(what));
        }
    }

    private static void refusesIndices(State state) {
        int shows = make(state).told(1);
        int length = make(state).count(4);
        for (int i : new int[] {-1, shows, shows + 1, LEAST, MOST}) {
            refused(state, "shown(" + i + ")", INDEX, x -> x.shown(i));
        }
        for (int i : new int[] {-1, -8, length, length + 1, LEAST, MOST, MOST - 7}) {
            refused(state, "word(" + i + ")", INDEX, x -> x.word(i));
        }
    }

    private static void refusesLooks(State state) {
        boolean has = hasProgram(state);
        for (int what : new int[] {-1, 4, LEAST, MOST}) {
            refused(state, "look(1, " + what + ")", has ? ARGUMENT : STATE, x -> x.look(1, what));
            refused(state, "look(-1, " + what + ")", has ? ARGUMENT : STATE, x -> x.look(-1, what));
        }
        for (int v : new int[] {-1, 0, 4, 99, 100, 101, LEAST, MOST}) {
            refused(state, "look(" + v + ", 0)", has ? ELEMENT : STATE, x -> x.look(v, 0));
            refused(state, "look(" + v + ", 1)", has ? ELEMENT : STATE, x -> x.look(v, 1));
        }
        for (int b : new int[] {-1, 1, 39, 40, LEAST, MOST}) {
            refused(state, "look(" + b + ", 2)", has ? ELEMENT : STATE, x -> x.look(b, 2));
            refused(state, "look(" + b + ", 3)", has ? ELEMENT : STATE, x -> x.look(b, 3));
        }
    }

    private static void refusesWithoutProgram(State state) {
        if (hasProgram(state)) {
            return;
        }
        for (int k : new int[] {1, 2, 32}) {
            refused(state, "give(" + k + ")", STATE, x -> x.give(k));
        }
        refused(state, "run(false, 1)", STATE, x -> x.run(false, 1));
        refused(state, "run(false, 100000)", STATE, x -> x.run(false, 100000));
        refused(state, "list(false)", STATE, x -> x.list(false));
    }

    private static void refusesWithoutGiven(State state) {
        if (hasGiven(state)) {
            return;
        }
        refused(state, "run(true, 1)", STATE, x -> x.run(true, 1));
        refused(state, "run(true, 100000)", STATE, x -> x.run(true, 100000));
        refused(state, "list(true)", STATE, x -> x.list(true));
    }

    private static void asksChangeNothing(State state) {
        SpillForge x = make(state);
        trace(x);
        SpillForge y = make(state);
        for (int what = 0; what <= 11; what++) {
            y.count(what);
            y.told(what % 5);
            int asked = what;
            Forge.answer(() -> y.look(1, asked % 4));
            Forge.answer(() -> y.word(asked));
            Forge.answer(() -> y.shown(asked));
        }
        Forge.due(state + " asks change nothing", trace(y), trace(make(state)));
        y.feed(0, 0, 0, 0, 0);
        Forge.due(state + " end of all that is on the TAPE", y.end(y.count(3)), 20);
    }

    private static void newObject() {
        SpillForge x = new SpillForge();
        for (int what = 0; what <= 11; what++) {
            Forge.due("a new object's count(" + what + ")", x.count(what), 0);
        }
        Forge.due("a new object's told", Forge.told(x), "0 0 0 0 -1");
        Forge.throwsDue("a new object's give", STATE, () -> x.give(1));
        Forge.throwsDue("a new object's look", STATE, () -> x.look(0, 2));
        Forge.throwsDue("a new object's run(false)", STATE, () -> x.run(false, 1));
        Forge.throwsDue("a new object's run(true)", STATE, () -> x.run(true, 1));
        Forge.throwsDue("a new object's list(false)", STATE, () -> x.list(false));
        Forge.throwsDue("a new object's list(true)", STATE, () -> x.list(true));
        Forge.throwsDue("a new object's word", INDEX, () -> x.word(0));
        Forge.throwsDue("a new object's shown", INDEX, () -> x.shown(0));
        Forge.due("a new object's end(0)", x.end(0), 0);
        Forge.throwsDue("a new object's end(1)", ARGUMENT, () -> x.end(1));
        Forge.due("a new object's input", x.input(), 0);
        Forge.due("a new object's text", x.text(), 0);
        SpillForge y = Forge.of("b0: v1 = in ret v1");
        y.run(false, 5);
        Forge.due("a new object's INPUT is empty", Forge.told(y), "0 0 2 0 0");
    }

    private static void orderOfExceptions() {
        SpillForge none = new SpillForge();
        Forge.throwsDue("give: the argument before the state", ARGUMENT, () -> none.give(0));
        Forge.throwsDue("give: then the state", STATE, () -> none.give(1));
        Forge.throwsDue("run: the argument before the state", ARGUMENT, () -> none.run(false, 0));
        Forge.throwsDue("run: the argument before the state", ARGUMENT, () -> none.run(true, 100001));
        Forge.throwsDue("run: then the state", STATE, () -> none.run(true, 100000));
        Forge.throwsDue("look: the state before the argument", STATE, () -> none.look(0, 4));
        Forge.throwsDue("look: the state before the element", STATE, () -> none.look(-1, 0));
        SpillForge some = Forge.of("b0: ret 1");
        Forge.throwsDue("look: the argument before the element", ARGUMENT, () -> some.look(-1, 4));
        Forge.throwsDue("look: then the element", ELEMENT, () -> some.look(-1, 3));
    }

    private static void countEdges() {
        SpillForge x = make(State.GIVEN);
        int[] want = {1, 5, 0, 18, 116, 10, 2, 2, 2, 0, 3, 2};
        for (int what = 0; what < want.length; what++) {
            Forge.due("count(" + what + ")", x.count(what), want[what]);
        }
        SpillForge most = Forge.of("b0: " + Forge.times(160, "v1 = 1\n") + "jump b1 b1: ret 1");
        Forge.due("count(0) of two blocks", most.count(0), 2);
        Forge.due("count(1) of the most ROWS", most.count(1), 160);
        Forge.due("count(5) before give", most.count(5), 0);
    }

    private static void lookEdges() {
        SpillForge x = Forge.of("b0: v0 = 1 v99 = v0 + v63 v64 = v99 show v64 jump b1 b1: ret v0");
        int[] registers = {0, 63, 64, 99};
        // v0, v99 and then v64 are alive with v0; v63 is set to 0 first.
        int[] weights = {3, 2, 2, 2};
        int[] joins = {3, 1, 1, 1};
        for (int n = 0; n < registers.length; n++) {
            Forge.due("look(" + registers[n] + ", 0)", x.look(registers[n], 0), weights[n]);
            Forge.due("look(" + registers[n] + ", 1)", x.look(registers[n], 1), joins[n]);
        }
        for (int v = -3; v < 130; v++) {
            int register = v;
            boolean stands = v == 0 || v == 63 || v == 64 || v == 99;
            if (!stands) {
                Forge.throwsDue("look(" + v + ", 0)", ELEMENT, () -> x.look(register, 0));
            }
        }
        Forge.due("look(1, 2) of the last block", x.look(1, 2), 1);
        Forge.throwsDue("look(2, 2) behind the last block", ELEMENT, () -> x.look(2, 2));
        Forge.throwsDue("look(2, 3) behind the last block", ELEMENT, () -> x.look(2, 3));
        x.give(1);
        Forge.due("look(0, 1) behind give", x.look(0, 1), 3);
        Forge.throwsDue("look(100, 0) behind give", ELEMENT, () -> x.look(100, 0));
        Forge.read(x, "b0: v5 = 1 ret v5");
        Forge.throwsDue("look(0, 0) of the program before", ELEMENT, () -> x.look(0, 0));
        Forge.due("look(5, 0) of the new program", x.look(5, 0), 2);
        Forge.throwsDue("look(1, 3) of the program before", ELEMENT, () -> x.look(1, 3));
    }

    private static void rightTextTakesAway() {
        SpillForge x = make(State.GIVEN);
        String result = Forge.result(x);
        String told = Forge.told(x);
        Forge.due("a right text", x.text(), -1);
        for (int what = 5; what <= 11; what++) {
            Forge.due("it takes away count(" + what + ")", x.count(what), 0);
        }
        Forge.throwsDue("what was given out is not run", STATE, () -> x.run(true, 5));
        Forge.throwsDue("nor listed", STATE, () -> x.list(true));
        Forge.due("RESULT stays", Forge.result(x), result);
        Forge.due("the latest RUN stays", Forge.told(x), told);
        Forge.due("count(0) is the new program's", x.count(0), 1);
        Forge.due("count(1) is the new program's", x.count(1), 1);
        x.run(false, 5);
        Forge.due("INPUT stays", Forge.told(x), "30 0 2 1 0");
    }

    private static void wrongTextLeavesNoProgram() {
        for (String text : new String[] {"", "x", "b0: ret", "b1: ret 1", "b0: jump b0", "b0: ret v100"}) {
            SpillForge x = make(State.GIVEN);
            x.end(0);
            String result = Forge.result(x);
            String told = Forge.told(x);
            Forge.due("a wrong text leaves none: " + text, Forge.read(x, text) >= 0, true);
            Forge.due("blocks", x.count(0), 0);
            Forge.due("ROWS", x.count(1), 0);
            Forge.due("bytes of the TAPE", x.count(3), 0);
            Forge.throwsDue("give", STATE, () -> x.give(2));
            Forge.throwsDue("look", STATE, () -> x.look(0, 3));
            Forge.throwsDue("run(false)", STATE, () -> x.run(false, 5));
            Forge.throwsDue("list(false)", STATE, () -> x.list(false));
            Forge.due("only a right text takes away what was given out", x.count(5), 10);
            Forge.due("RESULT stays", Forge.result(x), result);
            Forge.due("the latest RUN stays", Forge.told(x), told);
            Forge.due("what was given out is still listed", x.list(true), 116);
            Forge.due("and run", x.run(true, 100) + " " + x.told(0), "0 42");
            Forge.due("a right text behind it", Forge.read(x, "b0: ret 9"), -1);
            Forge.due("takes it away", x.count(5), 0);
            Forge.due("and is run", x.run(false, 1) + " " + x.told(0), "0 9");
        }
    }

    private static void giveInPlaceOfTheOneBefore() {
        SpillForge x = make(State.GIVEN);
        Forge.due("give(3)", x.give(3), 1);
        Forge.due("ROWS of the latest", x.count(5), 5);
        Forge.due("SLOTS of the latest", x.count(7), 0);
        Forge.throwsDue("a refused give", ARGUMENT, () -> x.give(33));
        Forge.due("leaves what was given out", x.count(5), 5);
        Forge.due("give(1)", x.give(1), -1);
        for (int what = 5; what <= 11; what++) {
            Forge.due("nothing is given out then: count(" + what + ")", x.count(what), 0);
        }
        Forge.throwsDue("nothing to run", STATE, () -> x.run(true, 5));
        Forge.throwsDue("nothing to list", STATE, () -> x.list(true));
        Forge.due("the PROGRAM stays", x.count(1), 5);
        Forge.due("give(2) again", x.give(2), 3);
        Forge.due("is given out", x.count(5), 10);
    }

    private static void resultIsTheLatest() {
        SpillForge x = make(State.GIVEN);
        Forge.due("list(false)", x.list(false), 56);
        Forge.due("RESULT", Forge.result(x),
                "b0:\nv1 = in\nv2 = in\nv3 = v1 + v2\nshow v1\nshow v2\nret v3\n");
        Forge.due("list(true)", x.list(true), 116);
        Forge.due("RESULT", Forge.result(x).startsWith("b0:\nv0 = in\nslot 1 = v0\nv1 = in\n"), true);
        x.give(4);
        Forge.due("give leaves RESULT", x.count(4), 116);
        Forge.due("list(true) again", x.list(true) < 116, true);
        x.text();
        Forge.throwsDue("list(true) of nothing", STATE, () -> x.list(true));
        Forge.due("leaves RESULT", x.count(4) > 0, true);
    }

    private static void wordEdges() {
        SpillForge x = Forge.of("b0: show 1 show 2 ret 34");
        Forge.throwsDue("word(0) of an empty RESULT", INDEX, () -> x.word(0));
        String long1 = "b0:\nshow 1\nshow 2\nret 34\n";
        Forge.due("a long listing", x.list(false), long1.length());
        Forge.read(x, "b0: ret 5");
        String short1 = "b0:\nret 5\n";
        Forge.due("a shorter one", x.list(false), short1.length());
        for (int i = 0; i < short1.length(); i++) {
            long eight = 0;
            for (int k = i; k < i + 8; k++) {
                eight = eight << 8 | (k < short1.length() ? short1.charAt(k) : 0);
            }
            Forge.due("word(" + i + ") with zeros behind the end", x.word(i), eight);
        }
        for (int i : new int[] {short1.length(), short1.length() + 1, -1, LEAST, MOST}) {
            Forge.throwsDue("word(" + i + ")", INDEX, () -> x.word(i));
        }
    }

    private static void twoObjects() {
        SpillForge x = make(State.GIVEN);
        SpillForge y = new SpillForge();
        Forge.read(y, "b0: v9 = 1 show v9 ret 2");
        y.give(1);
        y.run(true, 9);
        y.list(true);
        Forge.due("objects share nothing", trace(x), trace(make(State.GIVEN)));
    }

    private static final String[] TEXTS = {
        "b0: ret 1",
        "b0: ret v1 b1: jump b2 b2: jump b1 b3: ret 2",
        "b0: jump b1 b1: v1 = v1 + 1 if v1 b1 b2 b2: if v1 b1 b3 b3: ret v1",
        "b0: if v9 b1 b2 b1: v1 = in v2 = v1 jump b2 b2: v3 = v1 show v2 if v3 b3 b2 b3: ret v4",
        "b0: " + Forge.times(160, "v1 = 1\n") + "ret v1",
        "b0: v1 = in v2 = in v3 = in v4 = v1 + v2 v5 = v3 - v4 show v5 show v4 show v3 show v2 ret v1",
        "b0: v98 = v99 v97 = v98 show v97 v5 = v64 ret v63",
        "b0: ret v1 v2",
        "b0: jump b3 b2: ret 1",
        "b0: " + Forge.times(161, "v1 = 1\n") + "ret v1",
        "b0: v1 = 7 - ",
        "",
    };

    private static void use(SpillForge x, String text) {
        Forge.read(x, text);
        Forge.answer(() -> x.give(2));
        Forge.answer(() -> x.run(true, 700));
        Forge.answer(() -> x.list(true));
        Forge.input(x);
    }

    /** All that an object tells of a text that it reads now. */
    private static String traceOf(SpillForge x, String text) {
        StringBuilder all = new StringBuilder();
        all.append(Forge.read(x, text)).append(' ').append(x.count(0)).append(' ').append(x.count(1)).append(' ');
        all.append(x.count(2)).append(' ');
        for (int v : new int[] {0, 1, 2, 3, 4, 5, 9, 63, 64, 97, 98, 99}) {
            for (int what = 0; what <= 3; what++) {
                int asked = what;
                all.append(Forge.answer(() -> x.look(v, asked))).append(' ');
            }
        }
        if (x.count(0) == 0) {
            return all.toString();
        }
        for (int k = 1; k <= 3; k++) {
            all.append('\n').append(x.give(k)).append(' ');
            for (int what = 5; what <= 11; what++) {
                all.append(x.count(what)).append(' ');
            }
        }
        all.append(x.list(true)).append(' ').append(Forge.result(x, 0, Math.min(x.count(4), 300)));
        all.append(x.run(true, 900)).append(' ').append(Forge.told(x));
        return all.toString();
    }

    private static void textsBehindOneAnother() {
        for (String first : TEXTS) {
            for (String second : TEXTS) {
                SpillForge x = new SpillForge();
                use(x, first);
                Forge.due("behind " + first + ": " + second, traceOf(x, second), traceOf(new SpillForge(), second));
            }
        }
    }
}
