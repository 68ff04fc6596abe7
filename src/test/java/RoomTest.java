import java.lang.management.ManagementFactory;
import java.lang.reflect.Array;
import java.lang.reflect.Field;
import java.lang.reflect.Modifier;
import java.util.IdentityHashMap;
import java.util.Map;

/** All calls of a run live in one room: an object is small, and its calls make nothing. */
public final class RoomTest {
    private static final int MOST_ELEMENTS = 60_000;
    private static final int MOST_OBJECTS = 100;

    private long elements;
    private final Map<Object, Boolean> seen = new IdentityHashMap<>();
    private static int wrong;

    public static void main(String[] args) throws IllegalAccessException {
        PartMaker maker = new PartMaker();
        RoomTest before = new RoomTest();
        before.add(maker);
        hold(before.elements <= MOST_ELEMENTS, "fields and elements: " + before.elements);
        hold(before.seen.size() <= MOST_OBJECTS, "objects and arrays: " + before.seen.size());
        use(maker);
        RoomTest after = new RoomTest();
        after.add(maker);
        hold(after.elements == before.elements, "as many fields and elements as before");
        hold(after.seen.size() == before.seen.size(), "as many objects as before");
        callsMakeNothing();
        System.out.println(wrong == 0 ? before.elements + " fields and elements, and calls make none"
                : wrong + " are wrong");
        if (wrong != 0) {
            System.exit(1);
        }
    }

    private static void hold(boolean holds, String told) {
        if (!holds) {
            wrong++;
            System.out.println("not so: " + told);
        }
    }

    private void add(Object object) throws IllegalAccessException {
        if (object == null || seen.put(object, true) != null) {
            return;
        }
        if (object.getClass().isArray()) {
            elements += Array.getLength(object);
            if (object instanceof Object[]) {
                for (Object part : (Object[]) object) {
                    add(part);
                }
            }
            return;
        }
        for (Class<?> type = object.getClass(); type != Object.class; type = type.getSuperclass()) {
            for (Field field : type.getDeclaredFields()) {
                if (!Modifier.isStatic(field.getModifiers())) {
                    elements++;
                    field.setAccessible(true);
                    if (!field.getType().isPrimitive()) {
                        add(field.get(object));
                    }
                }
            }
        }
    }

    /** The dearest calls, each kind of them. */
    private static long use(PartMaker maker) {
        long sum = maker.many(3) + maker.budget(20000);
        for (int e = 0; e < 12; e++) {
            sum += maker.example(e - 6, e * e % 11 - 4, e * 7 % 13 - 5, e % 5);
        }
        sum += maker.constants() + maker.make(3) + maker.make(0);
        sum += maker.constant(0) ? 1 : 0;
        for (int turn = 0; turn < 9; turn++) {
            sum += maker.grow(false) + maker.grow(true);
        }
        for (int ifs = 0; ifs <= 3; ifs++) {
            sum += maker.solve(ifs) + maker.ties(ifs) + maker.without(0, ifs);
        }
        int last = maker.grown(false, 0) - 1;
        sum += maker.needed() + maker.fewest() + maker.nearest() + maker.far(last) + maker.fits(1, 0);
        sum += maker.write(false, last) + maker.write(true, 3) + maker.writeMerged(false, 0) + maker.octet(0);
        sum += maker.differs(false, last, last - 1) + maker.differs(true, 0, 1) + maker.mergedApart(false, 0, 0);
        sum += maker.joins(0, 3, 4) + maker.unlike(false, 1, 2) + maker.uses(false, last, 0) + maker.testOf(5);
        sum += maker.value(true, 3, 1, 2, 3) + maker.output(false, 5, 5) + maker.ofSize(false, 3) + maker.splits(1, 2);
        if (maker.count(6) == 1) {
            sum += maker.comes(1, 2, 3) + maker.writeSolved() + maker.leaf(3) + maker.apart(last, 0);
            sum += maker.solved(3) + maker.solvedUses(0) + maker.way(1, 2, 3, 0) + (maker.isIdle(4) ? 1 : 0);
        }
        return sum;
    }

    private static void callsMakeNothing() {
        java.lang.management.ThreadMXBean bean = ManagementFactory.getThreadMXBean();
        if (!(bean instanceof com.sun.management.ThreadMXBean)) {
            return;
        }
        com.sun.management.ThreadMXBean counting = (com.sun.management.ThreadMXBean) bean;
        PartMaker maker = new PartMaker();
        long sum = use(maker);
        long thread = Thread.currentThread().getId();
        long before = counting.getThreadAllocatedBytes(thread);
        sum += use(maker);
        long made = counting.getThreadAllocatedBytes(thread) - before;
        hold(sum != 0 && made < 4096, "calls make nothing, but " + made + " bytes");
    }
}
