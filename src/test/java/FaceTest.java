import java.lang.management.ManagementFactory;
import java.lang.reflect.Constructor;
import java.lang.reflect.Field;
import java.lang.reflect.Method;
import java.lang.reflect.Modifier;
import java.util.TreeSet;

/** The public face is the document's and no more, and calls make no objects that a run's room would fill with. */
public final class FaceTest {
    private FaceTest() {
    }

    public static void main(String[] args) {
        face();
        nested();
        room();
        Forge.close("FaceTest");
    }

    private static void face() {
        Forge.due("the class's modifiers", SpillForge.class.getModifiers(), Modifier.PUBLIC | Modifier.FINAL);
        TreeSet<String> visible = new TreeSet<>();
        for (Constructor<?> c : SpillForge.class.getDeclaredConstructors()) {
            visible.add("new" + c.getParameterCount() + " " + Modifier.toString(c.getModifiers()));
        }
        for (Method m : SpillForge.class.getDeclaredMethods()) {
            if (!Modifier.isPrivate(m.getModifiers()) && !m.isSynthetic()) {
                visible.add(m.toString().replaceAll("SpillForge\\.|java\\.util\\.|java\\.lang\\.", ""));
            }
        }
        for (Field f : SpillForge.class.getDeclaredFields()) {
            if (!Modifier.isPrivate(f.getModifiers())) {
                visible.add(f.toString());
            }
        }
        TreeSet<String> want = new TreeSet<>();
        want.add("new0 public");
        want.add("public int feed(int,int,int,int,int) throws IndexOutOfBoundsException");
        want.add("public int end(int) throws IllegalArgumentException");
        want.add("public int text()");
        want.add("public int input()");
        want.add("public int give(int) throws IllegalArgumentException,IllegalStateException");
        want.add("public int count(int) throws IllegalArgumentException");
        want.add("public int look(int,int) throws "
                + "IllegalStateException,IllegalArgumentException,NoSuchElementException");
        want.add("public int run(boolean,int) throws IllegalArgumentException,IllegalStateException");
        want.add("public int told(int) throws IllegalArgumentException");
        want.add("public int shown(int) throws IndexOutOfBoundsException");
        want.add("public int list(boolean) throws IllegalStateException");
        want.add("public long word(int) throws IndexOutOfBoundsException");
        Forge.due("the face", String.join("\n", visible), String.join("\n", want));
    }

    private static void nested() {
        TreeSet<String> publicNames = new TreeSet<>();
        for (Method m : SpillForge.class.getDeclaredMethods()) {
            if (Modifier.isPublic(m.getModifiers())) {
                publicNames.add(m.getName());
            }
        }
        for (Class<?> inner : SpillForge.class.getDeclaredClasses()) {
            Forge.due(inner + " is static", Modifier.isStatic(inner.getModifiers()), true);
            for (Method m : inner.getDeclaredMethods()) {
                Forge.due(m + " bears a name of the face", publicNames.contains(m.getName()), false);
            }
            for (Field f : inner.getDeclaredFields()) {
                boolean isState = Modifier.isStatic(f.getModifiers()) && !Modifier.isFinal(f.getModifiers());
                Forge.due(f + " is static state", isState, false);
            }
        }
    }

    private static void room() {
        com.sun.management.ThreadMXBean bean =
                (com.sun.management.ThreadMXBean) ManagementFactory.getThreadMXBean();
        long thread = Thread.currentThread().getId();
        new SpillForge();
        long before = bean.getThreadAllocatedBytes(thread);
        SpillForge x = new SpillForge();
        long made = bean.getThreadAllocatedBytes(thread) - before;
        Forge.due("a new object's bytes (" + made + ") are few", made < 400_000, true);
        Forge.read(x, "b0: v1 = in v2 = in v3 = v1 + v2 v4 = v3 show v1 show v2 show v4 ret v3");
        use(x);
        before = bean.getThreadAllocatedBytes(thread);
        int sum = use(x);
        long used = bean.getThreadAllocatedBytes(thread) - before;
        Forge.due("250 calls (" + sum + ") make " + used + " bytes", used < 2000, true);
    }

    private static int use(SpillForge x) {
        int sum = 0;
        for (int n = 0; n < 50; n++) {
            sum += x.give(2) + x.run(true, 1000) + x.list(true) + x.count(5) + (int) x.word(n % 50);
        }
        return sum;
    }
}
