import java.nio.charset.StandardCharsets;

/** Helps tests to use SpillForge with strings, and counts what is not as due. */
final class Forge {
    private static int checks = 0;
    private static int wrong = 0;

    private Forge() {
    }

    interface Call {
        Object make();
    }

    static void due(String what, Object got, Object want) {
        checks++;
        if (!String.valueOf(got).equals(String.valueOf(want))) {
            wrong++;
            System.out.println(what + " answered " + got + ", due is " + want);
        }
    }

    static void throwsDue(String what, Class<? extends RuntimeException> kind, Call call) {
        Object got;
        try {
            got = call.make();
        } catch (RuntimeException e) {
            got = e.getClass();
        }
        due(what, got, kind);
    }

    /** The last thing a test does. */
    static void close(String name) {
        System.out.println(name + ": " + checks + " checks, " + wrong + " not as due");
        if (wrong != 0 || checks == 0) {
            System.exit(1);
        }
    }

    static byte[] bytes(String text) {
        return text.getBytes(StandardCharsets.ISO_8859_1);
    }

    static void feed(SpillForge x, byte[] bytes) {
        int before = x.count(3);
        for (int at = 0; at < bytes.length; at += 20) {
            int[] five = new int[5];
            for (int i = 0; i < 20; i++) {
                five[i / 4] = five[i / 4] << 8 | (at + i < bytes.length ? bytes[at + i] & 255 : 0);
            }
            x.feed(five[0], five[1], five[2], five[3], five[4]);
        }
        x.end(before + bytes.length);
    }

    static int read(SpillForge x, String text) {
        feed(x, bytes(text));
        return x.text();
    }

    static SpillForge of(String text) {
        SpillForge x = new SpillForge();
        int wrongPlace = read(x, text);
        if (wrongPlace != -1) {
            throw new IllegalStateException("the test's text is wrong at " + wrongPlace + ": " + text);
        }
        return x;
    }

    static int input(SpillForge x, int... ints) {
        byte[] bytes = new byte[4 * ints.length];
        for (int i = 0; i < bytes.length; i++) {
            bytes[i] = (byte) (ints[i / 4] >> 24 - i % 4 * 8);
        }
        feed(x, bytes);
        return x.input();
    }

    static String list(SpillForge x, boolean given) {
        x.list(given);
        return result(x);
    }

    static String result(SpillForge x) {
        StringBuilder all = new StringBuilder();
        for (int i = 0; i < x.count(4); i++) {
            all.append((char) (x.word(i) >>> 56));
        }
        return all.toString();
    }

    static String told(SpillForge x) {
        StringBuilder all = new StringBuilder();
        for (int what = 0; what <= 4; what++) {
            all.append(x.told(what)).append(' ');
        }
        for (int i = 0; i < x.told(1); i++) {
            all.append(x.shown(i)).append(' ');
        }
        return all.toString().trim();
    }
}
