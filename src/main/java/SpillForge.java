import java.util.Arrays;
import java.util.NoSuchElementException;

/**
 * Gives out few registers to a program by the colours of a graph: copies are merged, registers that find no
 * colour are kept in slots, slots are shared. Programs can be run as they were read and as they were given out.
 */
public final class SpillForge {
    private static final int NONE = -1;

    private static final int TAPE_BYTES = 8192;
    private static final int FEED_BYTES = 20;
    private static final int BLOCKS = 40;
    private static final int REGISTERS = 100;
    private static final int READ_ROWS = 160;
    private static final int COLOURS = 32;
    private static final int ROUNDS = 40;
    private static final int FUEL = 100000;
    private static final int SHOWS = 512;

    // A PROGRAM has at most 620 places for registers: three in each ROW that is read, one in each ROW v = 0 and
    // in each END. A place takes at most one TEMPORARY with one load or store, and TEMPORARIES take none: so the
    // document's limits of 4000 ROWS and of v1999 cannot be reached, and smaller arrays hold everything.
    private static final int PLACES = 3 * READ_ROWS + REGISTERS + BLOCKS;
    private static final int NAMES = REGISTERS + PLACES;
    private static final int READ_LINES = READ_ROWS + BLOCKS;
    private static final int LINES = READ_LINES + REGISTERS + PLACES;
    private static final int WORDS = (NAMES + 63) / 64;
    // Above all that can be listed: 160 ROWS of 33 bytes, 100 of 8, 620 loads and stores of 14, 40 blocks of 28.
    private static final int LISTING_BYTES = 16384;

    // What a line of a program does; the first fourteen are in the order of OP_SIGNS.
    private static final int ADD = 0;
    private static final int SUBTRACT = 1;
    private static final int MULTIPLY = 2;
    private static final int DIVIDE = 3;
    private static final int REMAINDER = 4;
    private static final int AND = 5;
    private static final int OR = 6;
    private static final int XOR = 7;
    private static final int SHIFT_LEFT = 8;
    private static final int SHIFT_RIGHT = 9;
    private static final int LESS = 10;
    private static final int NOT_MORE = 11;
    private static final int SAME = 12;
    private static final int OTHER = 13;
    private static final int COPY = 14;
    private static final int TAKE = 15;
    private static final int SHOW = 16;
    private static final int LOAD = 17;
    private static final int STORE = 18;
    private static final int JUMP = 19;
    private static final int BRANCH = 20;
    private static final int RETURN = 21;

    private static final int OPS = 14;
    private static final String OP_SIGNS = "+ - * / % & | ^ <<>>< <===!=";

    private final Tape tape;
    private final Reader reader;
    private final Code program;
    private final Loops loops;
    private final Giver giver;
    private final Machine machine;
    private final Listing listing;
    private boolean hasProgram;

    public SpillForge() {
        tape = new Tape();
        reader = new Reader(tape);
        program = new Code(READ_LINES);
        loops = new Loops();
        giver = new Giver(loops);
        machine = new Machine();
        listing = new Listing();
    }

    public int feed(int a, int b, int c, int d, int e) throws IndexOutOfBoundsException {
        if (!tape.hasRoom(FEED_BYTES)) {
            throw new IndexOutOfBoundsException("the tape would be too long");
        }
        tape.addInt(a);
        tape.addInt(b);
        tape.addInt(c);
        tape.addInt(d);
        tape.addInt(e);
        return tape.size();
    }

    public int end(int n) throws IllegalArgumentException {
        if (n < 0 || n > tape.size()) {
            throw new IllegalArgumentException("the tape has not so many bytes");
        }
        tape.cutTo(n);
        return n;
    }

    public int text() {
        int wrongPlace = reader.readInto(program);
        tape.cutTo(0);
        hasProgram = wrongPlace == NONE;
        if (hasProgram) {
            loops.find(program);
            giver.survey(program);
        }
        return wrongPlace;
    }

    public int input() {
        int ints = machine.takeInput(tape);
        tape.cutTo(0);
        return ints;
    }

    public int give(int k) throws IllegalArgumentException, IllegalStateException {
        if (k < 1 || k > COLOURS) {
            throw new IllegalArgumentException("so many registers cannot be given out");
        }
        if (!hasProgram) {
            throw new IllegalStateException("there is no program");
        }
        return giver.giveOut(program, k);
    }

    public int count(int what) throws IllegalArgumentException {
        switch (what) {
            case 0: return hasProgram ? program.blocks : 0;
            case 1: return hasProgram ? program.rows() : 0;
            case 2: return reader.reason();
            case 3: return tape.size();
            case 4: return listing.size();
            default: break;
        }
        if (what < 5 || what > 11) {
            throw new IllegalArgumentException("nothing of that number is counted");
        }
        return giver.isDone() ? countGiven(what) : 0;
    }

    private int countGiven(int what) {
        switch (what) {
            case 5: return giver.result().rows();
            case 6: return giver.colours();
            case 7: return giver.sharedSlots();
            case 8: return giver.spilled();
            case 9: return giver.merged();
            case 10: return giver.result().linesThat(LOAD);
            default: return giver.result().linesThat(STORE);
        }
    }

    public int look(int v, int what)
            throws IllegalStateException, IllegalArgumentException, NoSuchElementException {
        if (!hasProgram) {
            throw new IllegalStateException("there is no program");
        }
        if (what < 0 || what > 3) {
            throw new IllegalArgumentException("nothing of that number can be looked at");
        }
        boolean ofRegister = what < 2;
        if (ofRegister ? !giver.stoodFirst(v) : v < 0 || v >= program.blocks) {
            throw new NoSuchElementException("the program has no such register or block");
        }
        switch (what) {
            case 0: return giver.firstWeight(v);
            case 1: return giver.firstDegree(v);
            case 2: return giver.liveBefore(v);
            default: return loops.depth(v);
        }
    }

    public int run(boolean given, int fuel) throws IllegalArgumentException, IllegalStateException {
        if (fuel < 1 || fuel > FUEL) {
            throw new IllegalArgumentException("so much fuel is not allowed");
        }
        if (!exists(given)) {
            throw new IllegalStateException("there is nothing to run");
        }
        machine.perform(given ? giver.result() : program, fuel);
        return machine.ending();
    }

    private boolean exists(boolean given) {
        return given ? giver.isDone() : hasProgram;
    }

    public int told(int what) throws IllegalArgumentException {
        switch (what) {
            case 0: return machine.answer();
            case 1: return machine.shows();
            case 2: return machine.steps();
            case 3: return machine.taken();
            case 4: return machine.ending();
            default: throw new IllegalArgumentException("nothing of that number is told");
        }
    }

    public int shown(int i) throws IndexOutOfBoundsException {
        if (i < 0 || i >= machine.shows()) {
            throw new IndexOutOfBoundsException("the run showed not so many");
        }
        return machine.showAt(i);
    }

    public int list(boolean given) throws IllegalStateException {
        if (!exists(given)) {
            throw new IllegalStateException("there is nothing to list");
        }
        listing.write(given ? giver.result() : program);
        return listing.size();
    }

    public long word(int i) throws IndexOutOfBoundsException {
        if (i < 0 || i >= listing.size()) {
            throw new IndexOutOfBoundsException("the result has no such byte");
        }
        return listing.eightFrom(i);
    }

    /** The number of the lowest bit that is set; bits is not 0. */
    private static int lowestBit(long bits) {
        return Long.bitCount((bits & -bits) - 1);
    }

    /** The bytes that were fed and are not yet used. */
    private static final class Tape {
        private final byte[] bytes = new byte[TAPE_BYTES];
        private int size;

        int size() {
            return size;
        }

        boolean hasRoom(int more) {
            return size + more <= bytes.length;
        }

        void addInt(int four) {
            for (int shift = 24; shift >= 0 && size < bytes.length; shift -= 8) {
                bytes[size] = (byte) (four >> shift);
                size++;
            }
        }

        void cutTo(int n) {
            size = Math.max(0, Math.min(n, size));
        }

        /** The byte at i, 0 to 255, or NONE where there is none. */
        int byteAt(int i) {
            return i >= 0 && i < size ? bytes[i] & 255 : NONE;
        }

        int intAt(int i) {
            int four = 0;
            for (int k = 0; k < 4; k++) {
                four = four << 8 | byteAt(i + k) & 255;
            }
            return four;
        }
    }

    /** Takes the signs of a text from the tape, one after the other. */
    private static final class Signs {
        static final int BAD = 0;
        static final int FINISH = 1;
        static final int REGISTER = 2;
        static final int BLOCK = 3;
        static final int NUMBER = 4;
        static final int OP = 5;
        static final int COLON = 6;
        static final int EQUALS = 7;
        static final int WORD_IN = 8;
        static final int WORD_SHOW = 9;
        static final int WORD_IF = 10;
        static final int WORD_JUMP = 11;
        static final int WORD_RET = 12;

        // Above every int, and so low that ten times it still is a long.
        private static final long TOO_MUCH = 1L << 40;

        private final Tape tape;
        private int kind;
        private int value;
        private int place;
        private int behind;

        Signs(Tape tape) {
            this.tape = tape;
        }

        int kind() {
            return kind;
        }

        int value() {
            return value;
        }

        int place() {
            return place;
        }

        void open() {
            kind = BAD;
            behind = 0;
            advance();
        }

        void advance() {
            boolean afterOperand = kind == REGISTER || kind == NUMBER;
            place = skipBlanks(behind);
            int c = tape.byteAt(place);
            int next = tape.byteAt(place + 1);
            value = 0;
            if (c == NONE) {
                kind = FINISH;
                behind = place;
            } else if (isDigit(c) || c == '-' && isDigit(next) && !afterOperand) {
                takeNumber(c == '-');
            } else if (c == 'v' && isDigit(next)) {
                takeNamed(REGISTER, REGISTERS);
            } else if (c == 'b' && isDigit(next)) {
                takeNamed(BLOCK, BLOCKS);
            } else if (isLetter(c)) {
                takeWord();
            } else {
                takeMark(c, next);
            }
        }

        private int skipBlanks(int from) {
            boolean inRemark = false;
            for (int i = from; i < tape.size(); i++) {
                int c = tape.byteAt(i);
                inRemark = c != 10 && (inRemark || c == ';');
                if (!inRemark && c != 9 && c != 10 && c != 13 && c != 32) {
                    return i;
                }
            }
            return tape.size();
        }

        private void takeNumber(boolean minus) {
            long digits = takeDigits(minus ? place + 1 : place);
            long number = minus ? -digits : digits;
            value = (int) number;
            kind = value == number ? NUMBER : BAD;
        }

        private void takeNamed(int namedKind, int limit) {
            long digits = takeDigits(place + 1);
            value = (int) digits;
            kind = digits < limit ? namedKind : BAD;
        }

        private long takeDigits(int from) {
            long digits = 0;
            int i = from;
            while (i < tape.size() && isDigit(tape.byteAt(i))) {
                digits = Math.min(digits * 10 + tape.byteAt(i) - '0', TOO_MUCH);
                i++;
            }
            behind = i;
            return digits;
        }

        private void takeWord() {
            int i = place;
            while (i < tape.size() && isLetter(tape.byteAt(i))) {
                i++;
            }
            behind = i;
            kind = isWord("in") ? WORD_IN
                    : isWord("show") ? WORD_SHOW
                    : isWord("if") ? WORD_IF
                    : isWord("jump") ? WORD_JUMP
                    : isWord("ret") ? WORD_RET : BAD;
        }

        private boolean isWord(String name) {
            if (behind - place != name.length()) {
                return false;
            }
            for (int i = 0; i < name.length(); i++) {
                if (tape.byteAt(place + i) != name.charAt(i)) {
                    return false;
                }
            }
            return true;
        }

        private void takeMark(int c, int next) {
            int op = opOf(c, next);
            behind = place + 2;
            if (op == NONE || next == ' ') {
                op = opOf(c, ' ');
                behind = place + 1;
            }
            value = op;
            kind = op != NONE ? OP : c == ':' ? COLON : c == '=' ? EQUALS : BAD;
        }

        private static int opOf(int c, int next) {
            for (int op = 0; op < OPS; op++) {
                if (OP_SIGNS.charAt(2 * op) == c && OP_SIGNS.charAt(2 * op + 1) == next) {
                    return op;
                }
            }
            return NONE;
        }

        private static boolean isDigit(int c) {
            return c >= '0' && c <= '9';
        }

        private static boolean isLetter(int c) {
            return c >= 'a' && c <= 'z';
        }
    }

    /** Reads a text, sign by sign, by the grammar and then by the rules. */
    private static final class Reader {
        private static final int NO_SIGN = 1;
        private static final int NOT_NEXT = 2;
        private static final int NO_GOAL = 3;
        private static final int TOO_MANY_ROWS = 4;

        // What is due at the next sign.
        private static final int FIRST_LABEL = 0;
        private static final int LABEL_OR_FINISH = 1;
        private static final int COLON = 2;
        private static final int LINE = 3;
        private static final int EQUALS = 4;
        private static final int SOURCE = 5;
        private static final int OP_OR_LINE = 6;
        private static final int RIGHT_OPERAND = 7;
        private static final int SHOWN_OPERAND = 8;
        private static final int TESTED_OPERAND = 9;
        private static final int ANSWER_OPERAND = 10;
        private static final int FIRST_GOAL = 11;
        private static final int LAST_GOAL = 12;

        private final Signs signs;
        private final int[] goalPlaces = new int[2 * BLOCKS];
        private int reason;
        private int rulePlace;
        private int ruleReason;
        private long labels;
        private int rows;
        private int due;
        private int op;
        private int set;
        private int left;
        private int leftNumber;

        Reader(Tape tape) {
            signs = new Signs(tape);
        }

        int reason() {
            return reason;
        }

        /** The place where the text is wrong, or NONE, if code holds the program now. */
        int readInto(Code code) {
            code.clear();
            labels = 0;
            rows = 0;
            rulePlace = NONE;
            ruleReason = 0;
            due = FIRST_LABEL;
            signs.open();
            boolean right = true;
            for (int n = 0; n < TAPE_BYTES && right && signs.kind() != Signs.FINISH; n++) {
                right = accept(code);
                if (right) {
                    signs.advance();
                }
            }
            if (!right || due != LABEL_OR_FINISH) {
                reason = NO_SIGN;
                return signs.place();
            }
            checkGoals(code);
            reason = ruleReason;
            return rulePlace;
        }

        /** Whether the sign can stand here; what it says is kept. */
        private boolean accept(Code code) {
            switch (due) {
                case FIRST_LABEL:
                case LABEL_OR_FINISH: return acceptLabel(code);
                case COLON: return acceptMark(Signs.COLON, LINE);
                case EQUALS: return acceptMark(Signs.EQUALS, SOURCE);
                case LINE: return acceptLine(code);
                case SOURCE: return acceptSource(code);
                case OP_OR_LINE: return acceptOpOrLine(code);
                case RIGHT_OPERAND: return acceptRight(code);
                case SHOWN_OPERAND: return acceptOnly(code, SHOW, LINE);
                case TESTED_OPERAND: return acceptOnly(code, BRANCH, FIRST_GOAL);
                case ANSWER_OPERAND: return acceptOnly(code, RETURN, LABEL_OR_FINISH);
                case FIRST_GOAL: return acceptGoal(code, LAST_GOAL);
                default: return acceptGoal(code, LABEL_OR_FINISH);
            }
        }

        private boolean acceptLabel(Code code) {
            if (signs.kind() != Signs.BLOCK) {
                return false;
            }
            labels |= 1L << signs.value();
            if (!isBroken() && (signs.value() != code.blocks || !code.openBlock())) {
                breakRule(NOT_NEXT);
            }
            due = COLON;
            return true;
        }

        private boolean acceptMark(int kind, int next) {
            due = next;
            return signs.kind() == kind;
        }

        private boolean acceptLine(Code code) {
            switch (signs.kind()) {
                case Signs.REGISTER:
                    beginRow();
                    return beginLine(signs.value(), EQUALS);
                case Signs.WORD_SHOW:
                    beginRow();
                    return beginLine(NONE, SHOWN_OPERAND);
                case Signs.WORD_IF: return beginLine(NONE, TESTED_OPERAND);
                case Signs.WORD_RET: return beginLine(NONE, ANSWER_OPERAND);
                case Signs.WORD_JUMP:
                    beginLine(NONE, LAST_GOAL);
                    keep(code, JUMP, NONE, 0);
                    return true;
                default: return false;
            }
        }

        private void beginRow() {
            rows++;
            if (!isBroken() && rows > READ_ROWS) {
                breakRule(TOO_MANY_ROWS);
            }
        }

        private boolean beginLine(int register, int next) {
            set = register;
            left = NONE;
            leftNumber = 0;
            due = next;
            return true;
        }

        private boolean acceptSource(Code code) {
            if (signs.kind() == Signs.WORD_IN) {
                keep(code, TAKE, NONE, 0);
                due = LINE;
                return true;
            }
            takeLeft();
            due = OP_OR_LINE;
            return isOperand();
        }

        private boolean acceptOpOrLine(Code code) {
            if (signs.kind() == Signs.OP) {
                op = signs.value();
                due = RIGHT_OPERAND;
                return true;
            }
            keep(code, COPY, NONE, 0);
            return acceptLine(code);
        }

        private boolean acceptRight(Code code) {
            keep(code, op, registerOrNone(), numberOrZero());
            due = LINE;
            return isOperand();
        }

        private boolean acceptOnly(Code code, int lineOp, int next) {
            takeLeft();
            keep(code, lineOp, NONE, 0);
            due = next;
            return isOperand();
        }

        private boolean acceptGoal(Code code, int next) {
            if (signs.kind() != Signs.BLOCK) {
                return false;
            }
            int at = isBroken() ? NONE : code.addGoal(signs.value());
            if (at >= 0 && at < goalPlaces.length) {
                goalPlaces[at] = signs.place();
            }
            due = next;
            return true;
        }

        private boolean isOperand() {
            return signs.kind() == Signs.REGISTER || signs.kind() == Signs.NUMBER;
        }

        private int registerOrNone() {
            return signs.kind() == Signs.REGISTER ? signs.value() : NONE;
        }

        private int numberOrZero() {
            return signs.kind() == Signs.NUMBER ? signs.value() : 0;
        }

        private void takeLeft() {
            left = registerOrNone();
            leftNumber = numberOrZero();
        }

        private void keep(Code code, int lineOp, int right, int rightNumber) {
            if (!isBroken()) {
                code.add(lineOp, set, left, leftNumber, right, rightNumber);
            }
        }

        private boolean isBroken() {
            return rulePlace != NONE;
        }

        private void breakRule(int rule) {
            rulePlace = signs.place();
            ruleReason = rule;
        }

        // Goals wait for the last label. Those that are kept all stand in front of another broken rule.
        private void checkGoals(Code code) {
            for (int at = 0; at < 2 * code.blocks && at < goalPlaces.length; at++) {
                int goal = code.goal(at >> 1, at & 1);
                if (goal != NONE && (goal == 0 || (labels >> goal & 1) == 0)) {
                    rulePlace = goalPlaces[at];
                    ruleReason = NO_GOAL;
                    return;
                }
            }
        }
    }

    /** A program: the lines (ROWS, and the END as the last one) of all blocks, one block behind the other. */
    private static final class Code {
        private final int[] first = new int[BLOCKS];
        private final int[] firstGoal = new int[BLOCKS];
        private final int[] secondGoal = new int[BLOCKS];
        private final int[] op;
        private final int[] set;
        private final int[] left;
        private final int[] leftNumber;
        private final int[] right;
        // Of a load or store the slot.
        private final int[] rightNumber;
        private int blocks;
        private int lines;
        private boolean isFull;

        Code(int capacity) {
            int length = Math.max(capacity, 0);
            op = new int[length];
            set = new int[length];
            left = new int[length];
            leftNumber = new int[length];
            right = new int[length];
            rightNumber = new int[length];
        }

        void clear() {
            blocks = 0;
            lines = 0;
            isFull = false;
        }

        int rows() {
            return lines - blocks;
        }

        int blockEnd(int b) {
            return b + 1 < blocks ? first[b + 1] : lines;
        }

        int goal(int b, int which) {
            return which == 0 ? firstGoal[b] : secondGoal[b];
        }

        boolean openBlock() {
            if (blocks >= BLOCKS) {
                return false;
            }
            first[blocks] = lines;
            firstGoal[blocks] = NONE;
            secondGoal[blocks] = NONE;
            blocks++;
            return true;
        }

        /** Adds a goal to the last block; its number, twice the block's and one more for a second goal. */
        int addGoal(int goal) {
            int b = blocks - 1;
            if (b < 0) {
                return NONE;
            }
            boolean isSecond = firstGoal[b] != NONE;
            int[] goals = isSecond ? secondGoal : firstGoal;
            goals[b] = goal;
            return isSecond ? 2 * b + 1 : 2 * b;
        }

        void add(int newOp, int newSet, int newLeft, int newLeftNumber, int newRight, int newRightNumber) {
            if (lines >= op.length) {
                isFull = true;
                return;
            }
            op[lines] = newOp;
            set[lines] = newSet;
            left[lines] = newLeft;
            leftNumber[lines] = newLeftNumber;
            right[lines] = newRight;
            rightNumber[lines] = newRightNumber;
            lines++;
        }

        /** Opens the block that follows, with the goals of the same block of another program. */
        void openLike(Code other) {
            int b = blocks;
            if (b < other.blocks && openBlock()) {
                firstGoal[b] = other.firstGoal[b];
                secondGoal[b] = other.secondGoal[b];
            }
        }

        void addLine(Code other, int i) {
            add(other.op[i], other.set[i], other.left[i], other.leftNumber[i], other.right[i],
                    other.rightNumber[i]);
        }

        void drop(int i) {
            int behind = lines - i - 1;
            if (i < 0 || behind < 0) {
                return;
            }
            System.arraycopy(op, i + 1, op, i, behind);
            System.arraycopy(set, i + 1, set, i, behind);
            System.arraycopy(left, i + 1, left, i, behind);
            System.arraycopy(leftNumber, i + 1, leftNumber, i, behind);
            System.arraycopy(right, i + 1, right, i, behind);
            System.arraycopy(rightNumber, i + 1, rightNumber, i, behind);
            lines--;
            for (int b = 0; b < blocks; b++) {
                if (first[b] > i) {
                    first[b]--;
                }
            }
        }

        /** Gives every register the name that newNames has for it. */
        void rename(int[] newNames) {
            for (int i = 0; i < lines; i++) {
                set[i] = nameIn(newNames, set[i]);
                left[i] = nameIn(newNames, left[i]);
                right[i] = nameIn(newNames, right[i]);
            }
        }

        void renameSlots(int[] newNames) {
            for (int i = 0; i < lines; i++) {
                if (op[i] == LOAD || op[i] == STORE) {
                    rightNumber[i] = nameIn(newNames, rightNumber[i]);
                }
            }
        }

        private static int nameIn(int[] newNames, int name) {
            return name >= 0 && name < newNames.length ? newNames[name] : name;
        }

        void replace(int gone, int kept) {
            for (int i = 0; i < lines; i++) {
                set[i] = set[i] == gone ? kept : set[i];
                left[i] = left[i] == gone ? kept : left[i];
                right[i] = right[i] == gone ? kept : right[i];
            }
        }

        int linesThat(int wanted) {
            int n = 0;
            for (int i = 0; i < lines; i++) {
                n += op[i] == wanted ? 1 : 0;
            }
            return n;
        }

        boolean copiesRegister(int i) {
            return op[i] == COPY && set[i] >= 0 && left[i] >= 0;
        }

        /** The register (or slot) that line i sets, or NONE. */
        int setBy(int i, boolean ofSlots) {
            if (ofSlots) {
                return op[i] == STORE ? rightNumber[i] : NONE;
            }
            return set[i];
        }

        int firstUse(int i, boolean ofSlots) {
            if (ofSlots) {
                return op[i] == LOAD ? rightNumber[i] : NONE;
            }
            return left[i];
        }

        int secondUse(int i, boolean ofSlots) {
            return ofSlots ? NONE : right[i];
        }
    }

    /** Finds the loops of a program and how deep its blocks stand in them; sets of blocks are bits of a long. */
    private static final class Loops {
        private static final int DEEPEST = 4;

        private final long[] goals = new long[BLOCKS];
        private final long[] sources = new long[BLOCKS];
        private final int[] depth = new int[BLOCKS];

        int depth(int b) {
            return b >= 0 && b < BLOCKS ? depth[b] : 0;
        }

        /** 10 to the power of the block's DEPTH. */
        int factor(int b) {
            int power = 1;
            for (int n = 0; n < depth(b); n++) {
                power *= 10;
            }
            return power;
        }

        void find(Code code) {
            Arrays.fill(goals, 0L);
            Arrays.fill(sources, 0L);
            Arrays.fill(depth, 0);
            for (int b = 0; b < code.blocks; b++) {
                link(b, code.firstGoal[b]);
                link(b, code.secondGoal[b]);
            }
            long reached = walk(goals, 1L, 0L);
            for (int head = 0; head < code.blocks; head++) {
                deepen(loopOf(head, reached));
            }
        }

        private void link(int from, int to) {
            if (to >= 0 && to < BLOCKS) {
                goals[from] |= 1L << to;
                sources[to] |= 1L << from;
            }
        }

        /** All loops with this head as one, or no block at all. */
        private long loopOf(int head, long reached) {
            long headBit = 1L << head;
            long besides = walk(goals, 1L, headBit);
            long closers = sources[head] & reached & ~besides;
            return closers == 0 ? 0L : headBit | walk(sources, closers, headBit | ~reached);
        }

        private void deepen(long loop) {
            for (int b = 0; b < BLOCKS; b++) {
                if ((loop >> b & 1) != 0 && depth[b] < DEEPEST) {
                    depth[b]++;
                }
            }
        }

        /** The blocks to which ways lead from some blocks, these too, without going through others. */
        private static long walk(long[] ways, long from, long without) {
            long seen = from & ~without;
            for (int pass = 0; pass < ways.length; pass++) {
                long more = seen;
                for (int b = 0; b < ways.length; b++) {
                    if ((seen >> b & 1) != 0) {
                        more |= ways[b] & ~without;
                    }
                }
                if (more == seen) {
                    return seen;
                }
                seen = more;
            }
            return seen;
        }
    }

    /** Which registers (or slots) are LIVE: of each block as many words of bits as the names need. */
    private static final class Live {
        private final long[] in = new long[BLOCKS * WORDS];
        private final long[] used = new long[BLOCKS * WORDS];
        private final long[] set = new long[BLOCKS * WORDS];
        private final long[] now = new long[WORDS];
        private int names;
        private int words;
        private boolean ofSlots;

        void solve(Code code, int newNames, boolean slots) {
            names = Math.max(0, Math.min(newNames, NAMES));
            words = (names + 63) >> 6;
            ofSlots = slots;
            for (int n = 0; n < code.blocks * words; n++) {
                in[n] = 0;
                used[n] = 0;
                set[n] = 0;
            }
            for (int b = 0; b < code.blocks; b++) {
                gather(code, b);
            }
            boolean changes = true;
            for (int pass = 0; pass <= code.blocks && changes; pass++) {
                changes = sweep(code);
            }
        }

        boolean isName(int name) {
            return name >= 0 && name < names;
        }

        private void gather(Code code, int b) {
            int base = b * words;
            for (int i = code.first[b]; i < code.blockEnd(b); i++) {
                gatherUse(base, code.firstUse(i, ofSlots));
                gatherUse(base, code.secondUse(i, ofSlots));
                int name = code.setBy(i, ofSlots);
                if (isName(name)) {
                    set[base + (name >> 6)] |= 1L << name;
                }
            }
        }

        private void gatherUse(int base, int name) {
            if (name >= 0 && name < names) {
                int at = base + (name >> 6);
                used[at] |= 1L << name & ~set[at];
            }
        }

        private boolean sweep(Code code) {
            boolean changes = false;
            for (int b = code.blocks - 1; b >= 0; b--) {
                enterBehind(code, b);
                for (int w = 0; w < words; w++) {
                    int at = b * words + w;
                    long bits = used[at] | now[w] & ~set[at];
                    changes = changes || bits != in[at];
                    in[at] = bits;
                }
            }
            return changes;
        }

        /** Makes now what is LIVE behind the block. */
        void enterBehind(Code code, int b) {
            int first = code.firstGoal[b];
            int second = code.secondGoal[b];
            for (int w = 0; w < words; w++) {
                long bits = first >= 0 && first < code.blocks ? in[first * words + w] : 0L;
                now[w] = second >= 0 && second < code.blocks ? bits | in[second * words + w] : bits;
            }
        }

        /** Makes now what is LIVE in front of line i, if it was what is LIVE behind it. */
        void stepOver(Code code, int i) {
            int name = code.setBy(i, ofSlots);
            if (isName(name)) {
                now[name >> 6] &= ~(1L << name);
            }
            revive(code.firstUse(i, ofSlots));
            revive(code.secondUse(i, ofSlots));
        }

        private void revive(int name) {
            if (name >= 0 && name < names) {
                now[name >> 6] |= 1L << name;
            }
        }

        boolean isLiveBefore(int b, int name) {
            return isName(name) && b >= 0 && b < BLOCKS && (in[b * words + (name >> 6)] >> name & 1) != 0;
        }

        int liveBefore(int b) {
            int n = 0;
            for (int w = 0; w < words; w++) {
                n += Long.bitCount(in[b * words + w]);
            }
            return n;
        }

        /** A word of the names that stand in the program: what is used is used first or set before. */
        long standing(int w, int blocks) {
            long bits = 0;
            for (int b = 0; b < blocks; b++) {
                bits |= used[b * words + w] | set[b * words + w];
            }
            return bits;
        }
    }

    /** Which registers (or slots) are JOINED. */
    private static final class Graph {
        private final Live live = new Live();
        private final long[] joined = new long[NAMES * WORDS];
        private final long[] standing = new long[WORDS];
        private final int[] degree = new int[NAMES];
        private int names;
        private int words;

        void build(Code code, int newNames, boolean ofSlots) {
            live.solve(code, newNames, ofSlots);
            names = live.names;
            words = live.words;
            for (int n = 0; n < names * words; n++) {
                joined[n] = 0;
            }
            for (int w = 0; w < words; w++) {
                standing[w] = live.standing(w, code.blocks);
            }
            for (int b = 0; b < code.blocks; b++) {
                joinBlock(code, b, ofSlots);
            }
            for (int v = 0; v < names; v++) {
                degree[v] = bitsOf(v);
            }
        }

        private void joinBlock(Code code, int b, boolean ofSlots) {
            live.enterBehind(code, b);
            for (int i = code.blockEnd(b) - 1; i >= code.first[b]; i--) {
                int name = code.setBy(i, ofSlots);
                if (live.isName(name)) {
                    joinToLive(name, !ofSlots && code.copiesRegister(i) ? code.left[i] : name);
                }
                live.stepOver(code, i);
            }
        }

        private void joinToLive(int v, int except) {
            for (int w = 0; w < words; w++) {
                long bits = live.now[w] & ~joined[v * words + w];
                for (int n = 0; n < 64 && bits != 0; n++) {
                    int u = w << 6 | lowestBit(bits);
                    bits &= bits - 1;
                    if (u != v && u != except) {
                        joined[v * words + w] |= 1L << u;
                        joined[u * words + (v >> 6)] |= 1L << v;
                    }
                }
            }
        }

        private int bitsOf(int v) {
            int n = 0;
            for (int w = 0; w < words; w++) {
                n += Long.bitCount(joined[v * words + w]);
            }
            return n;
        }

        boolean stands(int v) {
            return v >= 0 && v < names && (standing[v >> 6] >> v & 1) != 0;
        }

        boolean areJoined(int v, int u) {
            return v >= 0 && v < names && u >= 0 && u < names
                    && (joined[v * words + (u >> 6)] >> u & 1) != 0;
        }

        /** Whether v and u as one would be JOINED to fewer than k registers that are JOINED to k or more. */
        boolean canBeOne(int v, int u, int k) {
            int crowded = 0;
            for (int w = 0; w < words; w++) {
                long ofV = joined[v * words + w];
                long ofU = joined[u * words + w];
                long bits = ofV | ofU;
                for (int n = 0; n < 64 && bits != 0; n++) {
                    int bit = lowestBit(bits);
                    bits &= bits - 1;
                    int joins = degree[w << 6 | bit] - (int) ((ofV & ofU) >>> bit & 1L);
                    crowded += joins >= k ? 1 : 0;
                }
            }
            return crowded < k;
        }
    }

    /** Takes a graph apart and puts it together again with colours. */
    private static final class Colouring {
        private final Graph graph;
        private final int[] weight = new int[NAMES];
        private final int[] degree = new int[NAMES];
        private final int[] rest = new int[NAMES];
        private final int[] pile = new int[NAMES];
        private final int[] colour = new int[NAMES];
        private int restSize;
        private int pileSize;

        Colouring(Graph graph) {
            this.graph = graph;
        }

        int weight(int v) {
            return v >= 0 && v < NAMES ? weight[v] : 0;
        }

        /** Whether v stands in the program, but found no colour. */
        boolean isWithout(int v) {
            return graph.stands(v) && colour[v] == NONE;
        }

        int[] colours() {
            return colour;
        }

        void weigh(Code code, Loops loops) {
            Arrays.fill(weight, 0);
            for (int b = 0; b < code.blocks; b++) {
                int factor = loops.factor(b);
                for (int i = code.first[b]; i < code.blockEnd(b); i++) {
                    addWeight(code.set[i], factor);
                    addWeight(code.left[i], factor);
                    addWeight(code.right[i], factor);
                }
            }
        }

        private void addWeight(int v, int factor) {
            if (v >= 0 && v < NAMES) {
                weight[v] += factor;
            }
        }

        void takeApart(int k) {
            restSize = 0;
            pileSize = 0;
            for (int v = 0; v < graph.names; v++) {
                degree[v] = graph.degree[v];
                if (graph.stands(v)) {
                    rest[restSize] = v;
                    restSize++;
                }
            }
            for (int n = restSize; n > 0; n--) {
                int at = nextOfRest(k);
                int v = rest[at];
                restSize--;
                System.arraycopy(rest, at + 1, rest, at, restSize - at);
                pile[pileSize] = v;
                pileSize++;
                leave(v);
            }
        }

        private int nextOfRest(int k) {
            for (int at = 0; at < restSize; at++) {
                if (degree[rest[at]] < k) {
                    return at;
                }
            }
            int best = 0;
            for (int at = 1; at < restSize && (rest[at] < REGISTERS || rest[best] >= REGISTERS); at++) {
                if (isCheaper(rest[at], rest[best])) {
                    best = at;
                }
            }
            return best;
        }

        // WEIGHT by those JOINED, both sides multiplied so that nothing is rounded.
        private boolean isCheaper(int v, int u) {
            return (long) weight[v] * degree[u] < (long) weight[u] * degree[v];
        }

        private void leave(int v) {
            for (int w = 0; w < graph.words; w++) {
                long bits = graph.joined[v * graph.words + w];
                for (int n = 0; n < 64 && bits != 0; n++) {
                    degree[w << 6 | lowestBit(bits)]--;
                    bits &= bits - 1;
                }
            }
        }

        /** Whether every register found a colour. */
        boolean putTogether(int k) {
            Arrays.fill(colour, NONE);
            boolean allFound = true;
            for (int at = pileSize - 1; at >= 0; at--) {
                int v = pile[at];
                int least = lowestBit(~coloursAround(v));
                if (least < k) {
                    colour[v] = least;
                } else {
                    allFound = false;
                }
            }
            return allFound;
        }

        private long coloursAround(int v) {
            long taken = 0;
            for (int w = 0; w < graph.words; w++) {
                long bits = graph.joined[v * graph.words + w];
                for (int n = 0; n < 64 && bits != 0; n++) {
                    int c = colour[w << 6 | lowestBit(bits)];
                    bits &= bits - 1;
                    taken |= c == NONE ? 0L : 1L << c;
                }
            }
            return taken;
        }
    }

    /** GIVING OUT: the rounds, with merging and spilling, and the sharing of slots. */
    private static final class Giver {
        private final Loops loops;
        private final Graph graph = new Graph();
        private final Colouring colouring = new Colouring(graph);
        private final int[] firstWeight = new int[REGISTERS];
        private final int[] firstDegree = new int[REGISTERS];
        private final int[] liveBefore = new int[BLOCKS];
        private final int[] slotOf = new int[REGISTERS];
        private final int[] sharedSlot = new int[REGISTERS];
        private Code code = new Code(LINES);
        private Code spare = new Code(LINES);
        private int names;
        private int slots;
        private int sharedSlots;
        private int spilled;
        private int merged;
        private boolean isDone;

        Giver(Loops loops) {
            this.loops = loops;
        }

        boolean isDone() {
            return isDone;
        }

        Code result() {
            return code;
        }

        int sharedSlots() {
            return sharedSlots;
        }

        int spilled() {
            return spilled;
        }

        int merged() {
            return merged;
        }

        boolean stoodFirst(int v) {
            return v >= 0 && v < REGISTERS && firstDegree[v] != NONE;
        }

        int firstWeight(int v) {
            return v >= 0 && v < REGISTERS ? firstWeight[v] : 0;
        }

        int firstDegree(int v) {
            return v >= 0 && v < REGISTERS ? firstDegree[v] : 0;
        }

        int liveBefore(int b) {
            return b >= 0 && b < BLOCKS ? liveBefore[b] : 0;
        }

        int colours() {
            long seen = 0;
            for (int i = 0; i < code.lines; i++) {
                seen |= colourBit(code.set[i]) | colourBit(code.left[i]) | colourBit(code.right[i]);
            }
            return Long.bitCount(seen);
        }

        private static long colourBit(int v) {
            return v >= 0 ? 1L << v : 0L;
        }

        /** Keeps what a new program's first round is asked for; what was given out is taken away. */
        void survey(Code program) {
            begin(program);
            for (int b = 0; b < program.blocks; b++) {
                liveBefore[b] = graph.live.liveBefore(b);
            }
            graph.build(code, names, false);
            colouring.weigh(code, loops);
            for (int v = 0; v < REGISTERS; v++) {
                firstWeight[v] = colouring.weight(v);
                firstDegree[v] = graph.stands(v) ? graph.degree[v] : NONE;
            }
        }

        /** How many rounds it took, or -1. */
        int giveOut(Code program, int k) {
            begin(program);
            for (int round = 1; round <= ROUNDS; round++) {
                mergeCopies(k);
                colouring.weigh(code, loops);
                colouring.takeApart(k);
                if (colouring.putTogether(k)) {
                    code.rename(colouring.colours());
                    shareSlots();
                    isDone = true;
                    return round;
                }
                if (!giveSlots()) {
                    return -1;
                }
                spill();
                if (code.isFull) {
                    return -1;
                }
            }
            return -1;
        }

        private void begin(Code program) {
            isDone = false;
            names = REGISTERS;
            slots = 0;
            sharedSlots = 0;
            spilled = 0;
            merged = 0;
            Arrays.fill(slotOf, NONE);
            graph.live.solve(program, REGISTERS, false);
            code.clear();
            for (int b = 0; b < program.blocks; b++) {
                code.openLike(program);
                if (b == 0) {
                    setLiveToZero();
                }
                for (int i = program.first[b]; i < program.blockEnd(b); i++) {
                    code.addLine(program, i);
                }
            }
        }

        private void setLiveToZero() {
            for (int v = 0; v < REGISTERS; v++) {
                if (graph.live.isLiveBefore(0, v)) {
                    code.add(COPY, v, NONE, 0, NONE, 0);
                }
            }
        }

        /** Merges as long as it can; the graph then is that of the program as it is. */
        private void mergeCopies(int k) {
            int most = code.lines;
            for (int n = 0; n <= most; n++) {
                graph.build(code, names, false);
                int i = nextToMerge(k);
                if (i == NONE) {
                    return;
                }
                int kept = Math.min(code.set[i], code.left[i]);
                int gone = Math.max(code.set[i], code.left[i]);
                code.drop(i);
                code.replace(gone, kept);
                merged++;
            }
        }

        private int nextToMerge(int k) {
            for (int i = 0; i < code.lines; i++) {
                if (code.copiesRegister(i) && canMerge(code.set[i], code.left[i], k)) {
                    return i;
                }
            }
            return NONE;
        }

        private boolean canMerge(int v, int w, int k) {
            return v == w || v < REGISTERS && w < REGISTERS && !graph.areJoined(v, w) && graph.canBeOne(v, w, k);
        }

        /** Gives slots to those without a colour; false, if a TEMPORARY is among them. */
        private boolean giveSlots() {
            for (int v = REGISTERS; v < names; v++) {
                if (colouring.isWithout(v)) {
                    return false;
                }
            }
            for (int v = 0; v < REGISTERS; v++) {
                if (colouring.isWithout(v)) {
                    slotOf[v] = slots;
                    slots++;
                    spilled++;
                }
            }
            return true;
        }

        private void spill() {
            spare.clear();
            for (int b = 0; b < code.blocks; b++) {
                spare.openLike(code);
                for (int i = code.first[b]; i < code.blockEnd(b); i++) {
                    spillLine(i);
                }
            }
            Code old = code;
            code = spare;
            spare = old;
        }

        private void spillLine(int i) {
            int left = loaded(code.left[i]);
            int right = code.right[i] == code.left[i] ? left : loaded(code.right[i]);
            int slot = slotFor(code.set[i]);
            int set = slot == NONE ? code.set[i] : newTemporary();
            spare.add(code.op[i], set, left, code.leftNumber[i], right, code.rightNumber[i]);
            if (slot != NONE) {
                spare.add(STORE, NONE, set, 0, NONE, slot);
            }
        }

        private int loaded(int v) {
            int slot = slotFor(v);
            if (slot == NONE) {
                return v;
            }
            int temporary = newTemporary();
            spare.add(LOAD, temporary, NONE, 0, NONE, slot);
            return temporary;
        }

        private int slotFor(int v) {
            return v >= 0 && v < REGISTERS ? slotOf[v] : NONE;
        }

        private int newTemporary() {
            if (names >= NAMES) {
                spare.isFull = true;
                return NONE;
            }
            names++;
            return names - 1;
        }

        private void shareSlots() {
            graph.build(code, slots, true);
            for (int s = 0; s < slots && s < REGISTERS; s++) {
                int least = 0;
                while (least < s && isTakenAround(s, least)) {
                    least++;
                }
                sharedSlot[s] = least;
                sharedSlots = Math.max(sharedSlots, least + 1);
            }
            code.renameSlots(sharedSlot);
        }

        private boolean isTakenAround(int s, int number) {
            for (int t = 0; t < s; t++) {
                if (sharedSlot[t] == number && graph.areJoined(s, t)) {
                    return true;
                }
            }
            return false;
        }
    }

    /** Runs a program. */
    private static final class Machine {
        private static final int GOING = -2;
        private static final int NEVER = -1;
        private static final int ANSWERED = 0;
        private static final int BY_ZERO = 1;
        private static final int NO_FUEL = 4;
        private static final int TOO_MANY_SHOWS = 5;

        private final int[] given = new int[TAPE_BYTES / 4];
        private final int[] registers = new int[REGISTERS];
        private final int[] slots = new int[REGISTERS];
        private final int[] shows = new int[SHOWS];
        private int givens;
        private int block;
        private int answer;
        private int showCount;
        private int steps;
        private int taken;
        private int ending = NEVER;

        int takeInput(Tape tape) {
            givens = Math.min(tape.size() / 4, given.length);
            for (int i = 0; i < givens; i++) {
                given[i] = tape.intAt(4 * i);
            }
            return givens;
        }

        int answer() {
            return answer;
        }

        int shows() {
            return showCount;
        }

        int showAt(int i) {
            return i >= 0 && i < SHOWS ? shows[i] : 0;
        }

        int steps() {
            return steps;
        }

        int taken() {
            return taken;
        }

        int ending() {
            return ending;
        }

        void perform(Code code, int fuel) {
            Arrays.fill(registers, 0);
            Arrays.fill(slots, 0);
            block = 0;
            answer = 0;
            showCount = 0;
            taken = 0;
            ending = GOING;
            int line = 0;
            for (steps = 0; steps < fuel && ending == GOING; steps++) {
                line = line >= 0 && line < code.lines ? step(code, line) : halt(NO_FUEL);
            }
            if (ending == GOING) {
                ending = NO_FUEL;
            }
        }

        /** Does the line; the one that follows. */
        private int step(Code code, int i) {
            int op = code.op[i];
            int left = valueOf(code.left[i], code.leftNumber[i]);
            switch (op) {
                case JUMP: return enter(code, code.firstGoal[block]);
                case BRANCH: return enter(code, left != 0 ? code.firstGoal[block] : code.secondGoal[block]);
                case RETURN:
                    answer = left;
                    return halt(ANSWERED);
                case SHOW: return addShow(left) ? i + 1 : halt(TOO_MANY_SHOWS);
                case STORE:
                    put(slots, code.rightNumber[i], left);
                    return i + 1;
                case LOAD:
                    put(registers, code.set[i], slotAt(code.rightNumber[i]));
                    return i + 1;
                case COPY:
                    put(registers, code.set[i], left);
                    return i + 1;
                case TAKE:
                    put(registers, code.set[i], takeNext());
                    return i + 1;
                default: break;
            }
            int right = valueOf(code.right[i], code.rightNumber[i]);
            if (right == 0 && (op == DIVIDE || op == REMAINDER)) {
                return halt(BY_ZERO);
            }
            put(registers, code.set[i], calculate(op, left, right));
            return i + 1;
        }

        private int enter(Code code, int goal) {
            if (goal < 0 || goal >= code.blocks) {
                return halt(NO_FUEL);
            }
            block = goal;
            return code.first[goal];
        }

        private int halt(int how) {
            ending = how;
            return NONE;
        }

        private boolean addShow(int value) {
            if (showCount >= SHOWS) {
                return false;
            }
            shows[showCount] = value;
            showCount++;
            return true;
        }

        private int takeNext() {
            if (taken >= givens) {
                return 0;
            }
            taken++;
            return given[taken - 1];
        }

        private int valueOf(int register, int number) {
            return register >= 0 && register < REGISTERS ? registers[register] : number;
        }

        private int slotAt(int slot) {
            return slot >= 0 && slot < REGISTERS ? slots[slot] : 0;
        }

        private static void put(int[] cells, int at, int value) {
            if (at >= 0 && at < cells.length) {
                cells[at] = value;
            }
        }

        private static int calculate(int op, int left, int right) {
            switch (op) {
                case ADD: return left + right;
                case SUBTRACT: return left - right;
                case MULTIPLY: return left * right;
                case DIVIDE: return right == 0 ? 0 : left / right;
                case REMAINDER: return right == 0 ? 0 : left % right;
                case AND: return left & right;
                case OR: return left | right;
                case XOR: return left ^ right;
                case SHIFT_LEFT: return left << right;
                case SHIFT_RIGHT: return left >> right;
                case LESS: return left < right ? 1 : 0;
                case NOT_MORE: return left <= right ? 1 : 0;
                case SAME: return left == right ? 1 : 0;
                case OTHER: return left != right ? 1 : 0;
                default: return 0;
            }
        }
    }

    /** The latest LISTING. */
    private static final class Listing {
        private final byte[] bytes = new byte[LISTING_BYTES];
        private int size;

        int size() {
            return size;
        }

        long eightFrom(int i) {
            long eight = 0;
            for (int k = i; k < i + 8; k++) {
                eight = eight << 8 | (k >= 0 && k < size ? bytes[k] & 255 : 0);
            }
            return eight;
        }

        void write(Code code) {
            size = 0;
            for (int b = 0; b < code.blocks; b++) {
                addNamed("b", b);
                addText(":\n");
                for (int i = code.first[b]; i < code.blockEnd(b); i++) {
                    if (code.op[i] >= JUMP) {
                        addEnd(code, b, i);
                    } else {
                        addRow(code, i);
                    }
                    addByte('\n');
                }
            }
        }

        private void addEnd(Code code, int b, int i) {
            if (code.op[i] == RETURN) {
                addText("ret ");
                addOperand(code.left[i], code.leftNumber[i]);
            } else if (code.op[i] == JUMP) {
                addNamed("jump b", code.firstGoal[b]);
            } else {
                addText("if ");
                addOperand(code.left[i], code.leftNumber[i]);
                addNamed(" b", code.firstGoal[b]);
                addNamed(" b", code.secondGoal[b]);
            }
        }

        private void addRow(Code code, int i) {
            if (code.op[i] == SHOW) {
                addText("show ");
                addOperand(code.left[i], code.leftNumber[i]);
            } else if (code.op[i] == STORE) {
                addNamed("slot ", code.rightNumber[i]);
                addNamed(" = v", code.left[i]);
            } else {
                addNamed("v", code.set[i]);
                addText(" = ");
                addSource(code, i);
            }
        }

        private void addSource(Code code, int i) {
            if (code.op[i] == TAKE) {
                addText("in");
            } else if (code.op[i] == LOAD) {
                addNamed("slot ", code.rightNumber[i]);
            } else {
                addOperand(code.left[i], code.leftNumber[i]);
                if (code.op[i] < OPS) {
                    addOp(code.op[i]);
                    addOperand(code.right[i], code.rightNumber[i]);
                }
            }
        }

        private void addOp(int op) {
            addByte(' ');
            addByte(OP_SIGNS.charAt(2 * op));
            if (OP_SIGNS.charAt(2 * op + 1) != ' ') {
                addByte(OP_SIGNS.charAt(2 * op + 1));
            }
            addByte(' ');
        }

        private void addOperand(int register, int number) {
            if (register == NONE) {
                addNumber(number);
            } else {
                addNamed("v", register);
            }
        }

        private void addNamed(String front, int number) {
            addText(front);
            addNumber(number);
        }

        private void addText(String added) {
            for (int i = 0; i < added.length(); i++) {
                addByte(added.charAt(i));
            }
        }

        private void addNumber(int number) {
            if (number < 0) {
                addByte('-');
            }
            long rest = Math.abs((long) number);
            long unit = 1;
            for (int n = 0; n < 9 && unit <= rest / 10; n++) {
                unit *= 10;
            }
            for (int n = 0; n < 10 && unit > 0; n++) {
                addByte((char) ('0' + rest / unit % 10));
                unit /= 10;
            }
        }

        private void addByte(char c) {
            if (size < bytes.length) {
                bytes[size] = (byte) c;
                size++;
            }
        }
    }
}
