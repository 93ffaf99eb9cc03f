import java.io.IOException;
import java.lang.reflect.Method;
import java.lang.reflect.Modifier;
import java.nio.file.Files;
import java.nio.file.Path;

/** What README.md tells of the class: its example's answers, and each method of the face. */
public final class ReadmeTest {
    private static final Due DUE = new Due("ReadmeTest");

    private ReadmeTest() {
    }

    public static void main(String[] args) throws IOException {
        example();
        everyMethod(Files.readString(Path.of("README.md")));
        DUE.finish();
    }

    private static void example() {
        GuardedPackets x = new GuardedPackets();
        DUE.answer("add", x.add(1000, 0x0123456789ABCDEFL, 42, 7, 64, true), true);
        DUE.answer("feed", x.feed(3, 0x636261), 3);
        DUE.answer("seal", x.seal(1000, 17), 40);
        x.keep(0);
        DUE.answer("spoil", x.spoil(16, x.spoil(16, 0) ^ 1), 0);
        DUE.answer("open, spoilt", x.open(), -4);
        DUE.answer("bring", x.bring(0), 40);
        DUE.answer("open", x.open(), 17);
        DUE.answer("got", x.got(), 3);
        DUE.answer("data", x.data(0), 6513249);
        DUE.answer("open once more", x.open(), -3);
        DUE.answer("told", x.told(1000, 1), 1);
    }

    private static void everyMethod(String readme) {
        for (Method m : GuardedPackets.class.getDeclaredMethods()) {
            if (Modifier.isPublic(m.getModifiers())) {
                boolean isThere = readme.contains("| `" + m.getName() + "(");
                DUE.answer("README.md tells of " + m.getName(), isThere, true);
            }
        }
    }
}
