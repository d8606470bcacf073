import java.lang.management.ManagementFactory;
import java.lang.reflect.Array;
import java.lang.reflect.Field;
import java.lang.reflect.Modifier;

/** How much room an object takes when it is made and when all has been asked of it once, and that it takes no more. */
public final class RoomTest {
    private static long objects = 0, cells = 0;

    private RoomTest() { }

    public static void main(String[] args) throws Exception {
        TwoSides t = new TwoSides();
        measure(t, 250, 5000);
        com.sun.management.ThreadMXBean threads = (com.sun.management.ThreadMXBean) ManagementFactory.getThreadMXBean();
        long id = Thread.currentThread().getId();
        callAll(t);
        measure(t, 300, 60000);
        long before = threads.getThreadAllocatedBytes(id);
        for (int i = 0; i < 20; i++) callAll(t);
        long taken = threads.getThreadAllocatedBytes(id) - before;
        Due.hold("calls take no room, but took " + taken, taken < 20000);
        Due.end();
    }

    private static void measure(TwoSides t, int mostObjects, int mostCells) throws Exception {
        objects = 0;
        cells = 0;
        count(t);
        System.out.println(objects + " objects and arrays, " + cells + " fields and elements in an object");
        Due.hold("few objects", objects <= mostObjects);
        Due.hold("few fields and elements", cells <= mostCells);
    }

    private static void count(Object o) throws Exception {
        if (o == null) return;
        objects++;
        if (o.getClass().isArray()) {
            cells += Array.getLength(o);
            for (int i = 0; i < Array.getLength(o) && !o.getClass().getComponentType().isPrimitive(); i++) count(Array.get(o, i));
            return;
        }
        for (Field f : o.getClass().getDeclaredFields()) {
            if (Modifier.isStatic(f.getModifiers())) continue;
            cells++;
            f.setAccessible(true);
            if (!f.getType().isPrimitive()) count(f.get(o));
        }
    }

    private static void callAll(TwoSides t) {
        t.erase();
        t.write(Due.bytes("wxaby=yb"), 8);
        t.write(Due.bytes("axw;zw=w"), 8);
        t.write(Due.bytes("z"), 1);
        t.fault();
        Due.be("equations", t.take(), 2);
        t.item(0, 0, 0);
        for (int u = 0; u < 4; u++) {
            t.bounds(u, 0, 8, 7 - (t.answers() & 1));
            t.tell(u, 0, 1);
            t.answer(100, u, 0);
            t.sure(u, 0);
            t.found(0, u, 0);
            t.word(u, 68, 20 + u);
        }
        t.rank();
        t.met(1);
        Due.hold("an answer", t.met(0) > 0);
        t.fewest(0);
        t.ring(0);
        t.putting(0, 0);
        for (int what = 0; what < 7; what++) t.of(0, what);
        t.part(0, 0);
        t.agree(0, 1);
        t.turned(0, 1);
        t.classes(3, 5, 60, -1);
        t.write(Due.bytes("wxyz"), 4);
        Due.be("items", t.pattern(0), 4);
        t.makes(0, 1);
        t.carries(0, 0);
        t.sample(17, 8);
        t.common(-1);
        for (int what = 0; what < 5; what++) t.count(what);
        t.clear();
    }
}
