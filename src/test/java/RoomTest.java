import java.lang.management.ManagementFactory;
import java.lang.reflect.Array;
import java.lang.reflect.Field;
import java.lang.reflect.Modifier;
import java.util.IdentityHashMap;
import java.util.Map;

/** All calls of a run live in one room: calls make nothing new, but for a TEXT that is told. */
public final class RoomTest {
    private static final com.sun.management.ThreadMXBean BEAN =
        (com.sun.management.ThreadMXBean) ManagementFactory.getThreadMXBean();
    private static int objects = 0;
    private static int elements = 0;

    public static void main(String[] args) throws IllegalAccessException {
        newObjectIsSmall();
        callsMakeNothing();
        textsMakeLittle();
        Due.end();
    }

    private static void newObjectIsSmall() throws IllegalAccessException {
        measure(new SnowOwed(), new IdentityHashMap<>());
        System.out.println("a new object: " + objects + " objects and arrays, " + elements + " fields and elements");
        Due.isTrue("objects of a new one", objects < 200);
        Due.isTrue("elements of a new one", elements < 3000);
    }

    private static void measure(Object o, Map<Object, Boolean> seen) throws IllegalAccessException {
        if (o == null || o instanceof String || seen.put(o, true) != null) {
            return;
        }
        objects++;
        if (o.getClass().isArray()) {
            int n = Array.getLength(o);
            elements += n;
            for (int i = 0; i < n && !o.getClass().getComponentType().isPrimitive(); i++) {
                measure(Array.get(o, i), seen);
            }
            return;
        }
        for (Field f : o.getClass().getDeclaredFields()) {
            if (!Modifier.isStatic(f.getModifiers())) {
                elements++;
                f.setAccessible(true);
                if (!f.getType().isPrimitive()) {
                    measure(f.get(o), seen);
                }
            }
        }
    }

    private static long allocated() {
        return BEAN.getCurrentThreadAllocatedBytes();
    }

    private static int dearCalls(SnowOwed x) {
        return x.way(5, 0) + x.gone() + x.warmed(0, 0) + x.behind(100, 0) + x.keep() + x.days(1) + x.lay(0, 2, 0)
            + x.lay(1, 1, 0) + x.lay(2, 3, 7) + x.tell(4) + x.check(30) + x.back() + x.sheet(1, 0, 24) + x.copy(0, 0, 0, 1, 5)
            + x.pour(1) + x.reads(0) + x.most() + x.told(0, 4) + x.fine(0) + x.feed(1, 2, 3) + x.text() + x.ask(1, 0)
            + x.item(0, 0) + x.rest(2, 3) + x.pack(0, 1) + x.lose(0) + x.deal(1) + x.count(5);
    }

    private static void callsMakeNothing() {
        SnowOwed x = new SnowOwed();
        x.deal(9);
        x.sheet(0, 1, 24);
        Due.text(x, "size w/9+l");
        Due.text(x, "give s/3+d*0");
        Due.text(x, "fine w*b");
        int sum = 0;
        for (int i = 0; i < 10; i++) {
            sum += dearCalls(x);
        }
        long before = allocated();
        for (int i = 0; i < 40; i++) {
            sum += dearCalls(x);
        }
        long bytes = allocated() - before;
        Due.isTrue("forty rounds made " + bytes + " bytes (" + sum + ")", bytes < 1000);
    }

    private static void textsMakeLittle() {
        SnowOwed x = new SnowOwed();
        x.keep();
        // what the machine makes for itself is counted too, so the least of some tells what a text makes
        long least = Long.MAX_VALUE;
        for (int i = 0; i < 20; i++) {
            for (int j = 0; j < 8; j++) {
                x.feed(j == 0 ? 0x73697a65 : 0x2b312b31, j == 0 ? 0x20312b31 : 0x2b312b31, 0x2b312b31);
            }
            x.trim(96);
            long before = allocated();
            int number = x.text();
            least = Math.min(least, allocated() - before);
            Due.due("a long text", number, 0);
            x.back();
        }
        Due.isTrue("a long text makes " + least + " bytes", least > 0 && least < 1000);
    }
}
