import java.io.IOException;
import java.nio.file.Files;
import java.nio.file.Path;

/** Makes the calls of README.md's example; .ci/run starts it in the project's folder, where README.md stands. */
public final class ReadmeTest {
    private static final String README = "README.md";

    private static String readme;

    public static void main(String[] args) throws IOException {
        readme = Files.readString(Path.of(README));
        SpillForge x = new SpillForge();
        row("x.feed(7, 0, 0, 0, 0)", x.feed(7, 0, 0, 0, 0), 20);
        row("x.end(4)", x.end(4), 4);
        row("x.input()", x.input(), 1);
        row("x.feed(0x62303A20, 0x7631203D, 0x20696E20, 0x72657420, 0x76310000)",
                x.feed(0x62303A20, 0x7631203D, 0x20696E20, 0x72657420, 0x76310000), 20);
        row("x.end(18)", x.end(18), 18);
        row("x.text()", x.text(), -1);
        row("x.give(4)", x.give(4), 1);
        row("x.run(true, 1000)", x.run(true, 1000), 0);
        row("x.told(0)", x.told(0), 7);
        row("x.told(2)", x.told(2), 2);
        row("x.list(true)", x.list(true), 19);
        row("x.word(0)", "0x" + Long.toHexString(x.word(0)).toUpperCase() + "L", "0x62303A0A7630203DL");
        Forge.due("the listing", Forge.result(x, 0, 19), "b0:\nv0 = in\nret v0\n");
        Forge.close("ReadmeTest");
    }

    /** The call gives its answer, and README.md says that it does. */
    private static void row(String call, Object got, Object want) {
        Forge.due(call, got, want);
        Forge.due("README.md has " + call, readme.contains(call + ";"), true);
        int at = readme.indexOf(call + ";");
        String behind = at < 0 ? "" : readme.substring(at).lines().findFirst().orElse("");
        Forge.due("README.md tells the answer of " + call, behind.contains("// " + want), true);
    }
}
