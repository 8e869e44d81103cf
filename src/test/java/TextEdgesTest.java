/** The sentences on the TAPE and on texts that name an edge: the last value that is right, the first that is not. */
public final class TextEdgesTest {
    private static final String OPS = "+ - * / % & | ^ << >> < <= == !=";

    private TextEdgesTest() {
    }

    public static void main(String[] args) {
        tapeIsFull();
        tapeIsCut();
        bytesBehindWord();
        bytesBehindNumber();
        remarks();
        longestSigns();
        words();
        registers();
        blocks();
        numbers();
        minusSigns();
        emptyTexts();
        everyPrefix();
        everyPlaceOfTheGrammar();
        longestText();
        reasonOneComesFirst();
        ruleTwo();
        ruleThree();
        ruleFour();
        firstSignOfSeveral();
        reasonOfTheLatest();
        Forge.close("TextEdgesTest");
    }

    private static void fill(SpillForge x, int feeds) {
        for (int n = 0; n < feeds; n++) {
            x.feed(0x20202020, 0x20202020, 0x20202020, 0x20202020, 0x20202020);
        }
    }

    private static void tapeIsFull() {
        SpillForge x = new SpillForge();
        Forge.feed(x, Forge.bytes("b0: ret 7"));
        fill(x, 409);
        Forge.due("a tape of 8189", x.count(3), 8189);
        Forge.throwsDue("feed to 8209", IndexOutOfBoundsException.class, () -> x.feed(-1, -1, -1, -1, -1));
        Forge.due("a refused feed leaves the length", x.count(3), 8189);
        x.end(8173);
        Forge.throwsDue("feed to 8193", IndexOutOfBoundsException.class, () -> x.feed(-1, -1, -1, -1, -1));
        Forge.due("a refused feed leaves the length", x.count(3), 8173);
        x.end(8172);
        Forge.due("feed to 8192", x.feed(0x20202020, 0x20202020, 0x20202020, 0x20202020, 0x3b2d2d2d), 8192);
        Forge.throwsDue("feed of a full tape", IndexOutOfBoundsException.class, () -> x.feed(-1, -1, -1, -1, -1));
        Forge.due("end of a full tape", x.end(8192), 8192);
        Forge.throwsDue("end behind a full tape", IllegalArgumentException.class, () -> x.end(8193));
        Forge.due("a refused feed leaves the bytes", x.text(), -1);
        Forge.due("the text of a full tape", Forge.list(x, false), "b0:\nret 7\n");
        Forge.due("the tape is empty then", x.count(3), 0);
        Forge.due("and takes bytes again", x.feed(0, 0, 0, 0, 0), 20);
    }

    private static void tapeIsCut() {
        SpillForge x = new SpillForge();
        Forge.due("an empty tape's end", x.end(0), 0);
        Forge.feed(x, Forge.bytes("b0: ret 123456"));
        Forge.throwsDue("end behind the last byte", IllegalArgumentException.class, () -> x.end(15));
        Forge.throwsDue("end of -1", IllegalArgumentException.class, () -> x.end(-1));
        Forge.due("a refused end changes nothing", x.count(3), 14);
        Forge.due("end at the last byte", x.end(14), 14);
        Forge.due("end one byte less", x.end(13), 13);
        Forge.throwsDue("what was cut is gone", IllegalArgumentException.class, () -> x.end(14));
        Forge.due("feed behind the end", x.feed(0x39200000, 0, 0, 0, 0), 33);
        x.end(15);
        Forge.due("text of what was kept and fed", x.text(), -1);
        Forge.due("its listing", Forge.list(x, false), "b0:\nret 123459\n");
        fill(x, 1);
        Forge.due("end(0)", x.end(0), 0);
        Forge.due("a text of nothing", x.text(), 0);
    }

    private static boolean isBlank(int c) {
        return c == 9 || c == 10 || c == 13 || c == 32;
    }

    private static boolean isDigit(int c) {
        return c >= '0' && c <= '9';
    }

    private static boolean isLetter(int c) {
        return c >= 'a' && c <= 'z';
    }

    private static void bytesBehindWord() {
        for (int c = 0; c < 256; c++) {
            SpillForge x = new SpillForge();
            int place = Forge.read(x, "b0: ret" + (char) c + "1");
            int want = isBlank(c) || isDigit(c) || c == '-' ? -1 : c == ';' ? 9 : isLetter(c) ? 4 : 7;
            Forge.due("ret, byte " + c + ", 1", place, want);
            Forge.due("its reason", x.count(2), want == -1 ? 0 : 1);
        }
    }

    private static void bytesBehindNumber() {
        for (int c = 0; c < 256; c++) {
            SpillForge x = new SpillForge();
            int place = Forge.read(x, "b0: v1 = 7" + (char) c + "3 ret 0");
            boolean joins = isDigit(c) || "+-*/%&|^<".indexOf(c) >= 0;
            int want = joins ? -1 : isBlank(c) ? 11 : c == ';' ? 18 : c == 'v' ? 13 : 10;
            Forge.due("7, byte " + c + ", 3", place, want);
            Forge.due("its reason", x.count(2), want == -1 ? 0 : 1);
        }
    }

    private static void remarks() {
        Forge.right(";;; x\n;\n b0: ret 1 ;", "b0:\nret 1\n");
        Forge.right("b0: ret ; a ; b \r still \t a remark \u00ff\u0000\n 1", "b0:\nret 1\n");
        Forge.right("b0: v1;1\n= 2;3\nret v1;1", "b0:\nv1 = 2\nret v1\n");
        Forge.wrong("b0: ret 1 ; 2\n3", 14, 1);
        Forge.wrong("b0: ret ; 1 \r 2", 15, 1);
        Forge.wrong("b0: v1;\n1 = 2 ret 1", 8, 1);
        Forge.wrong("b0: re;\nt 1", 4, 1);
    }

    private static void longestSigns() {
        for (String op : OPS.split(" ")) {
            Forge.right("b0: v1 = v2" + op + "v3 ret 1", "b0:\nv1 = v2 " + op + " v3\nret 1\n");
            Forge.right("b0: v1 = 7 " + op + " -3 ret 1", "b0:\nv1 = 7 " + op + " -3\nret 1\n");
        }
        Forge.wrong("b0: v1 = 7 < < 3 ret 1", 13, 1);
        Forge.wrong("b0: v1 = 7 > > 3 ret 1", 11, 1);
        Forge.wrong("b0: v1 = 7 < = 3 ret 1", 13, 1);
        Forge.wrong("b0: v1 = 7 = = 3 ret 1", 11, 1);
        Forge.wrong("b0: v1 = 7 ! = 3 ret 1", 11, 1);
        Forge.wrong("b0: v1 = 7 <<< 3 ret 1", 13, 1);
        Forge.wrong("b0: v1 = 7 >>> 3 ret 1", 13, 1);
        Forge.wrong("b0: v1 = 7 <== 3 ret 1", 13, 1);
        Forge.wrong("b0: v1 = 7 === 3 ret 1", 13, 1);
        Forge.wrong("b0: v1 = 7 !== 3 ret 1", 13, 1);
        Forge.wrong("b0: v1 = 7 <> 3 ret 1", 12, 1);
        Forge.wrong("b0: v1 = 7 >< 3 ret 1", 11, 1);
        Forge.wrong("b0: v1 = 7 >= 3 ret 1", 11, 1);
        Forge.wrong("b0: v1 = 7 =< 3 ret 1", 11, 1);
        Forge.wrong("b0: v1 = 7 ** 3 ret 1", 12, 1);
        Forge.wrong("b0: v1 == 7 ret 1", 7, 1);
        Forge.wrong("b0:: ret 1", 3, 1);
        Forge.wrong("b0: v1 = 7 <", 12, 1);
        Forge.wrong("b0: v1 = 7 !", 11, 1);
    }

    private static void words() {
        Forge.right("b0:v1=in v2=in show5show v1 if 0b1b1 b1:jump b2 b2:ret5",
                "b0:\nv1 = in\nv2 = in\nshow 5\nshow v1\nif 0 b1 b1\nb1:\njump b2\nb2:\nret 5\n");
        for (String word : "i n inn iin ini sho shows hshow jum jumps re rets et ifi f x v vv b bb".split(" ")) {
            Forge.wrong("b0: " + word + " 1", 4, 1);
        }
        otherLetters("b0: v1 = ", "in", " ret 1");
        otherLetters("b0: ", "show", " 1 ret 1");
        otherLetters("b0: ", "if", " 1 b1 b1 b1: ret 1");
        otherLetters("b0: ", "jump", " b1 b1: ret 1");
        otherLetters("b0: ", "ret", " 1");
        Forge.wrong("b0: v1 = in2 ret 1", 11, 1);
        Forge.wrong("b0: v1 = inv2 = 1 ret 1", 9, 1);
        Forge.wrong("b0: showv1 ret 1", 4, 1);
        Forge.wrong("b0: jumpb1 b1: ret 1", 4, 1);
        Forge.wrong("b0: RET 1", 4, 1);
        Forge.wrong("b0: reT 1", 4, 1);
        Forge.wrong("b0: ret`1", 7, 1);
        Forge.wrong("b0: ret{1", 7, 1);
    }

    private static void otherLetters(String front, String word, String back) {
        Forge.due("text " + front + word + back, Forge.read(new SpillForge(), front + word + back), -1);
        for (int i = 0; i < word.length(); i++) {
            String other = word.substring(0, i) + 'o' + word.substring(i + 1);
            if (!other.equals(word)) {
                Forge.wrong(front + other + back, front.length(), 1);
            }
        }
    }

    private static void registers() {
        String[] fronts = {"b0: ", "b0: v1 = ", "b0: v1 = v2 + ", "b0: show ", "b0: if ", "b0: ret "};
        String[] backs = {" = 1 ret 1", " ret 1", " ret 1", " ret 1", " b1 b1 b1: ret 1", ""};
        for (int n = 0; n < fronts.length; n++) {
            for (String name : new String[] {
                "v0", "v00", "v9", "v10", "v99", "v099", "v" + Forge.times(40, "0") + "99"}) {
                Forge.due("text " + fronts[n] + name, Forge.read(new SpillForge(), fronts[n] + name + backs[n]), -1);
            }
            for (String name : new String[] {
                "v100", "v0100", "v999", "v4294967296", "v4294967297", "v18446744073709551617",
                "v" + Forge.times(40, "9"), "v", "v-1", "V1", "w1"}) {
                Forge.wrong(fronts[n] + name + backs[n], fronts[n].length(), 1);
            }
        }
        Forge.right("b0: show v0 show v00 show v09 ret v0000099", "b0:\nshow v0\nshow v0\nshow v9\nret v99\n");
        Forge.wrong("b0: show v 1 ret 1", 9, 1);
    }

    private static String blocksTo(int last) {
        StringBuilder text = new StringBuilder();
        for (int b = 0; b < last; b++) {
            text.append('b').append(b).append(": jump b").append(b + 1).append('\n');
        }
        return text.append('b').append(last).append(": ").toString();
    }

    private static void blocks() {
        SpillForge x = Forge.of(blocksTo(39) + "ret 1");
        Forge.due("blocks up to b39", x.count(0), 40);
        x = Forge.of(blocksTo(39) + "jump b39");
        Forge.due("a goal b39", x.count(0), 40);
        String behind = blocksTo(39) + "ret 1 ";
        Forge.wrong(behind + "b40: ret 1", behind.length(), 1);
        Forge.wrong(blocksTo(39) + "jump b40", blocksTo(39).length() + 5, 1);
        Forge.wrong(blocksTo(38) + "jump b39", blocksTo(38).length() + 5, 3);
        Forge.right("b0: jump b01 b00001: ret 1", "b0:\njump b1\nb1:\nret 1\n");
        Forge.right("b000: ret 1", "b0:\nret 1\n");
        for (String name : new String[] {
            "b40", "b040", "b99", "b100", "b4294967297", "b" + Forge.times(40, "1"), "b"}) {
            Forge.wrong(name + ": ret 1", 0, 1);
            Forge.wrong("b0: jump " + name + " b1: ret 1", 9, 1);
            Forge.wrong("b0: if 1 " + name + " b1 b1: ret 1", 9, 1);
            Forge.wrong("b0: if 1 b1 " + name + " b1: ret 1", 12, 1);
        }
        Forge.wrong("b 0: ret 1", 0, 1);
    }

    private static void numbers() {
        String[] fronts = {"b0: v1 = ", "b0: v1 = 7 + ", "b0: show ", "b0: if ", "b0: ret "};
        String[] backs = {" ret 1", " ret 1", " ret 1", " b1 b1 b1: ret 1", ""};
        for (int n = 0; n < fronts.length; n++) {
            for (String number : new String[] {
                "0", "-0", "007", "2147483647", "-2147483647", "-2147483648",
                Forge.times(40, "0") + "2147483647", "-" + Forge.times(40, "0") + "2147483648"}) {
                String text = fronts[n] + number + backs[n];
                Forge.due("text " + text, Forge.read(new SpillForge(), text), -1);
            }
            for (String number : new String[] {
                "2147483648", "-2147483649", "4294967295", "4294967296", "4294967301", "-4294967295",
                "9223372036854775808", "18446744073709551616", "18446744073709551621", "-18446744073709551615",
                Forge.times(60, "9"), "-" + Forge.times(60, "9")}) {
                Forge.wrong(fronts[n] + number + backs[n], fronts[n].length(), 1);
            }
        }
        Forge.right("b0: show 0 show -0 show 007 show -007 show -2147483648 ret 2147483647",
                "b0:\nshow 0\nshow 0\nshow 7\nshow -7\nshow -2147483648\nret 2147483647\n");
        Forge.right("b0: v1 = 0 - -2147483648 ret 1", "b0:\nv1 = 0 - -2147483648\nret 1\n");
        Forge.wrong("b0: v1 = 0 - 2147483648 ret 1", 13, 1);
        Forge.wrong("b0: v1 = 0 -2147483648 ret 1", 12, 1);
    }

    private static void minusSigns() {
        for (String text : new String[] {"v2 - 3", "v2- 3", "v2 -3", "v2-3", "v2 ; 9\n -3", "v2;\n-\n3"}) {
            Forge.right("b0: v1 = " + text + " ret 1", "b0:\nv1 = v2 - 3\nret 1\n");
        }
        for (String text : new String[] {"-3 - -4", "-3 --4", "-3--4", "-3\n--4", "-3 ; 5\n- -4"}) {
            Forge.right("b0: v1 = " + text + " ret 1", "b0:\nv1 = -3 - -4\nret 1\n");
        }
        Forge.right("b0: v1=-3 v1=7*-3 v1=7<<-3 show-3 if-3b1b1 b1:ret-3",
                "b0:\nv1 = -3\nv1 = 7 * -3\nv1 = 7 << -3\nshow -3\nif -3 b1 b1\nb1:\nret -3\n");
        Forge.wrong("b0: v1 = - 3 ret 1", 9, 1);
        Forge.wrong("b0: v1 = -v3 ret 1", 9, 1);
        Forge.wrong("b0: v1 = --3 ret 1", 9, 1);
        Forge.wrong("b0: v1 = 2 - - 3 ret 1", 13, 1);
        Forge.wrong("b0: v1 = 2---3 ret 1", 11, 1);
        Forge.wrong("b0: v1 = in -3 ret 1", 12, 1);
        Forge.wrong("b0: show v1 -3 ret 1", 12, 1);
        Forge.wrong("b0: show 1 -3 ret 1", 11, 1);
        Forge.wrong("b0: if 1 -1 b1 b1: ret 1", 9, 1);
        Forge.wrong("b0: if 1 b1 -1 b1: ret 1", 12, 1);
        Forge.wrong("b0: ret 1 -1", 10, 1);
        Forge.wrong("b0: ret -", 8, 1);
    }

    private static void emptyTexts() {
        Forge.wrong("", 0, 1);
        Forge.wrong(" \t\r\n", 4, 1);
        Forge.wrong(";", 1, 1);
        Forge.wrong("; b0: ret 1", 11, 1);
        Forge.wrong(Forge.times(20, " "), 20, 1);
    }

    private static String lastWord(String text) {
        int from = text.length();
        while (from > 0 && isLetter(text.charAt(from - 1))) {
            from--;
        }
        return text.substring(from);
    }

    private static void everyPrefix() {
        String text = "b0 : v1 = 5 v2 = v1 <= 3 v3 = in show v3 ; done\n ret v1";
        for (int n = 0; n < text.length(); n++) {
            String front = text.substring(0, n);
            String word = front.contains(";") && !front.contains("\n") ? "" : lastWord(front);
            boolean isWhole = word.isEmpty() || word.equals("in") || word.equals("show") || word.equals("ret");
            Forge.wrong(front, isWhole ? n : n - word.length(), 1);
        }
        Forge.right(text, "b0:\nv1 = 5\nv2 = v1 <= 3\nv3 = in\nshow v3\nret v1\n");
        for (String front : new String[] {
            "b0: jump", "b0: jump ", "b0: if", "b0: if 1", "b0: if 1 b1", "b0: if 1 b1 ;"}) {
            Forge.wrong(front, front.length(), 1);
        }
    }

    private static void everyPlaceOfTheGrammar() {
        String line = "v7 show jump if ret";
        placeOf("", "b1");
        placeOf("b0 ", ":");
        placeOf("b0: ", line);
        placeOf("b0: v1 ", "=");
        placeOf("b0: v1 = ", "v7 7 in");
        placeOf("b0: v1 = v2 ", line + " " + OPS);
        placeOf("b0: v1 = 2 ", line + " " + OPS);
        placeOf("b0: v1 = v2 + ", "v7 7");
        placeOf("b0: v1 = v2 + v3 ", line);
        placeOf("b0: v1 = v2 + 3 ", line);
        placeOf("b0: v1 = in ", line);
        placeOf("b0: show ", "v7 7");
        placeOf("b0: show v1 ", line);
        placeOf("b0: show 1 ", line);
        placeOf("b0: jump ", "b1");
        placeOf("b0: jump b1 ", "b1");
        placeOf("b0: if ", "v7 7");
        placeOf("b0: if 1 ", "b1");
        placeOf("b0: if v1 ", "b1");
        placeOf("b0: if 1 b1 ", "b1");
        placeOf("b0: if 1 b1 b1 ", "b1");
        placeOf("b0: ret ", "v7 7");
        placeOf("b0: ret 1 ", "b1");
        placeOf("b0: ret v1 ", "b1");
    }

    private static void placeOf(String front, String allowed) {
        String all = "in show if jump ret v7 b1 7 : = " + OPS;
        for (String sign : all.split(" ")) {
            SpillForge x = new SpillForge();
            int place = Forge.read(x, front + sign);
            boolean stands = place != front.length() || x.count(2) != 1;
            boolean want = (" " + allowed + " ").contains(" " + sign + " ");
            Forge.due("that " + sign + " can stand behind " + front, stands, want);
        }
    }

    private static void longestText() {
        String rows = Forge.times(160, "v99 = -2147483648 << -2147483648\n");
        SpillForge x = Forge.of("b0:\n" + rows + "ret -2147483648");
        Forge.due("rows of the longest text", x.count(1), 160);
        Forge.due("the longest listing's length", x.list(false), 4 + 160 * 33 + 16);
        Forge.due("its last word", x.word(4 + 160 * 33 + 8), 0x373438333634380aL);
    }

    private static void reasonOneComesFirst() {
        Forge.wrong("b1: ret 1 ?", 10, 1);
        Forge.wrong("b0: jump b0 ?", 12, 1);
        Forge.wrong("b0: jump b7 b1: ret", 19, 1);
        String rows = Forge.times(161, "v1=1\n");
        Forge.wrong("b0: " + rows, 4 + rows.length(), 1);
        Forge.wrong("b0: " + rows + "ret 1 v1", 4 + rows.length() + 6, 1);
        Forge.wrong("b0: " + Forge.times(200, "v1=1\n") + "ret v100", 4 + 1000 + 4, 1);
    }

    private static void ruleTwo() {
        Forge.wrong("b1: ret 1", 0, 2);
        Forge.wrong("b39: ret 1", 0, 2);
        Forge.wrong(" ;\n b1: ret 1", 4, 2);
        Forge.wrong("b0: ret 1 b0: ret 1", 10, 2);
        Forge.wrong("b0: ret 1 b2: ret 1", 10, 2);
        Forge.wrong("b0: ret 1 b1: ret 1 b1: ret 1", 20, 2);
        Forge.wrong("b0: ret 1 b1: ret 1 b3: ret 1 b9: ret 1", 20, 2);
        Forge.right("b0: ret 1 b1: ret 1 b2: ret 1", "b0:\nret 1\nb1:\nret 1\nb2:\nret 1\n");
        String full = blocksTo(39) + "ret 1 ";
        Forge.wrong(full + "b39: ret 1", full.length(), 2);
        Forge.wrong(full + "b0: ret 1", full.length(), 2);
        Forge.wrong(full + Forge.times(300, "b5: ret 1 "), full.length(), 2);
    }

    private static void ruleThree() {
        Forge.wrong("b0: jump b0", 9, 3);
        Forge.wrong("b0: jump b1", 9, 3);
        Forge.wrong("b0: ret 1 b1: jump b0", 19, 3);
        Forge.wrong("b0: ret 1 b1: jump b2", 19, 3);
        Forge.wrong("b0: if 1 b0 b1 b1: ret 1", 9, 3);
        Forge.wrong("b0: if 1 b1 b0 b1: ret 1", 12, 3);
        Forge.wrong("b0: if 1 b2 b2 b1: ret 1", 9, 3);
        Forge.wrong("b0: if 1 b1 b2 b1: ret 1", 12, 3);
        Forge.wrong("b0: if 1 b1 b39 b1: jump b38", 12, 3);
        Forge.right("b0: if 1 b1 b2 b1: jump b1 b2: if 1 b2 b1",
                "b0:\nif 1 b1 b2\nb1:\njump b1\nb2:\nif 1 b2 b1\n");
    }

    private static void ruleFour() {
        SpillForge x = Forge.of("b0: " + Forge.times(160, "show 1\n") + "ret 1");
        Forge.due("160 ROWS", x.count(1), 160);
        Forge.wrong("b0: " + Forge.times(160, "show 1\n") + "v1 = 1 ret 1", 4 + 160 * 7, 4);
        Forge.wrong("b0: " + Forge.times(160, "v1 = 1\n") + "show 1 ret 1", 4 + 160 * 7, 4);
        Forge.wrong("b0: " + Forge.times(300, "v1 = 1\n") + "ret 1", 4 + 160 * 7, 4);
        String front = "b0: " + Forge.times(80, "v1=1\n") + "jump b1 b1: " + Forge.times(80, "v1=in\n");
        x = Forge.of(front + "jump b2 b2: ret 1");
        Forge.due("160 ROWS of several blocks", x.count(1), 160);
        Forge.wrong(front + "jump b2 b2: v1 = v1 + v1 ret 1", front.length() + 12, 4);
    }

    private static void firstSignOfSeveral() {
        String rows = Forge.times(160, "v1=1\n");
        Forge.wrong("b0: jump b5 b2: ret 1", 9, 3);
        Forge.wrong("b0: ret 1 b2: jump b5", 10, 2);
        Forge.wrong("b0: jump b5 b1: " + rows + "v1=1 ret 1", 9, 3);
        Forge.wrong("b0: " + rows + "v1=1 jump b5", 4 + rows.length(), 4);
        Forge.wrong("b0: " + rows + "v1=1 ret 1 b5: ret 1", 4 + rows.length(), 4);
        Forge.wrong("b0: ret 1 b5: " + rows + "v1=1 ret 1", 10, 2);
    }

    private static void reasonOfTheLatest() {
        SpillForge x = new SpillForge();
        Forge.due("REASON before any text", x.count(2), 0);
        Forge.due("text", Forge.read(x, "b0: ret"), 7);
        Forge.due("REASON", x.count(2), 1);
        Forge.due("text", Forge.read(x, "b1: ret 1"), 0);
        Forge.due("REASON", x.count(2), 2);
        Forge.due("text", Forge.read(x, "b0: jump b0"), 9);
        Forge.due("REASON", x.count(2), 3);
        Forge.due("text", Forge.read(x, "b0: " + Forge.times(161, "v1=1\n") + "ret 1"), 804);
        Forge.due("REASON", x.count(2), 4);
        Forge.due("text", Forge.read(x, "b0: ret 1"), -1);
        Forge.due("REASON of a right text", x.count(2), 0);
        x.feed(0x62000000, 0, 0, 0, 0);
        Forge.throwsDue("end", IllegalArgumentException.class, () -> x.end(99));
        x.input();
        Forge.due("REASON behind other calls", x.count(2), 0);
        Forge.due("text of what input took", x.text(), 0);
        Forge.due("REASON of the empty text", x.count(2), 1);
    }
}
