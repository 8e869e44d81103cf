import java.nio.charset.StandardCharsets;

/** Helps tests to use SpillForge with strings, and counts what is not as due. */
final class Forge {
    private static int checks = 0;
    private static int wrong = 0;

    private Forge() {
    }

    interface Call {
        Object make();
    }

    static void due(String what, Object got, Object want) {
        checks++;
        if (!String.valueOf(got).equals(String.valueOf(want))) {
            wrong++;
            System.out.println(what + " answered " + got + ", due is " + want);
        }
    }

    static void throwsDue(String what, Class<? extends RuntimeException> kind, Call call) {
        due(what, answer(call), kind);
    }

    /** The last thing a test does. */
    static void close(String name) {
        System.out.println(name + ": " + checks + " checks, " + wrong + " not as due");
        if (wrong != 0 || checks == 0) {
            System.exit(1);
        }
    }

    static byte[] bytes(String text) {
        return text.getBytes(StandardCharsets.ISO_8859_1);
    }

    static void feed(SpillForge x, byte[] bytes) {
        int before = x.count(3);
        for (int at = 0; at < bytes.length; at += 20) {
            int[] five = new int[5];
            for (int i = 0; i < 20; i++) {
                five[i / 4] = five[i / 4] << 8 | (at + i < bytes.length ? bytes[at + i] & 255 : 0);
            }
            x.feed(five[0], five[1], five[2], five[3], five[4]);
        }
        x.end(before + bytes.length);
    }

    static int read(SpillForge x, String text) {
        feed(x, bytes(text));
        return x.text();
    }

    static SpillForge of(String text) {
        SpillForge x = new SpillForge();
        int wrongPlace = read(x, text);
        if (wrongPlace != -1) {
            throw new IllegalStateException("the test's text is wrong at " + wrongPlace + ": " + text);
        }
        return x;
    }

    static int input(SpillForge x, int... ints) {
        byte[] bytes = new byte[4 * ints.length];
        for (int i = 0; i < bytes.length; i++) {
            bytes[i] = (byte) (ints[i / 4] >> 24 - i % 4 * 8);
        }
        feed(x, bytes);
        return x.input();
    }

    static String list(SpillForge x, boolean given) {
        x.list(given);
        return result(x);
    }

    static String result(SpillForge x) {
        return result(x, 0, x.count(4));
    }

    static String result(SpillForge x, int from, int to) {
        StringBuilder all = new StringBuilder();
        for (int i = from; i < to; i += 8) {
            long eight = x.word(i);
            for (int k = i; k < i + 8 && k < to; k++) {
                all.append((char) (eight >>> 56));
                eight <<= 8;
            }
        }
        return all.toString();
    }

    /** What the latest run told, and its shows; of many the first and the last ones. */
    static String told(SpillForge x) {
        StringBuilder all = new StringBuilder();
        for (int what = 0; what <= 4; what++) {
            all.append(x.told(what)).append(' ');
        }
        int shows = x.told(1);
        for (int i = 0; i < shows; i++) {
            if (isAsked(i, shows)) {
                all.append(x.shown(i)).append(' ');
            }
        }
        return all.toString().trim();
    }

    static boolean isAsked(int i, int shows) {
        return i < 60 || i >= shows - 40;
    }

    /** The answer, or the class of what was thrown. */
    static Object answer(Call call) {
        try {
            return call.make();
        } catch (RuntimeException e) {
            return e.getClass();
        }
    }

    /** The same text n times. */
    static String times(int n, String text) {
        StringBuilder all = new StringBuilder();
        for (int i = 0; i < n; i++) {
            all.append(text);
        }
        return all.toString();
    }

    /** Checks that a text is right, and what its listing is. */
    static void right(String text, String listing) {
        SpillForge x = new SpillForge();
        due("text " + text, read(x, text), -1);
        due("reason of " + text, x.count(2), 0);
        due("tape behind " + text, x.count(3), 0);
        due("listing of " + text, answer(() -> list(x, false)), listing);
    }

    /** Checks where and why a text is wrong. */
    static void wrong(String text, int place, int reason) {
        SpillForge x = new SpillForge();
        due("text " + text, read(x, text), place);
        due("reason of " + text, x.count(2), reason);
        due("tape behind " + text, x.count(3), 0);
        due("blocks of " + text, x.count(0), 0);
        throwsDue("list of " + text, IllegalStateException.class, () -> x.list(false));
    }
}
