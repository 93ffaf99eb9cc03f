import java.lang.reflect.Array;
import java.lang.reflect.Field;

/**
 * Sets a top that no 512 calls lead to: each packet lifts it by less than 2^32, so the end of the
 * extended numbers, 2^63 - 1, can be tested from inside alone.
 */
final class Inside {
    private Inside() {
    }

    static void setTop(GuardedPackets x, int name, long top) {
        try {
            Object all = field(x, "associations").get(x);
            for (int i = 0; i < Array.getLength(all); i++) {
                Object association = Array.get(all, i);
                if (field(association, "title").getInt(association) == name) {
                    Object window = field(association, "window").get(association);
                    field(window, "top").setLong(window, top);
                }
            }
        } catch (ReflectiveOperationException e) {
            throw new AssertionError("the class holds its state otherwise now: mend Inside", e);
        }
    }

    private static Field field(Object holder, String name) throws NoSuchFieldException {
        Field field = holder.getClass().getDeclaredField(name);
        field.setAccessible(true);
        return field;
    }
}
