import java.lang.management.ManagementFactory;
import java.lang.reflect.Array;
import java.lang.reflect.Field;
import java.lang.reflect.Modifier;
import java.util.ArrayDeque;
import java.util.Collections;
import java.util.Deque;
import java.util.IdentityHashMap;
import java.util.Set;

/** What a new object takes, and that no call makes anything more. */
public final class RoomTest {
    private static final Checks CHECKS = new Checks();
    private static final String TEXT = "?(1/6:A1(B11(A2([-1],[-2]),[-1]),B12([-2],[1])),"
            + "1/6:A1(B21(A2([-1],[-2]),[-1]),B22([-2],[1])),1/6:A3(B31(A4([-1],[2]),[1]),B32([2],[1])),"
            + "1/6:A3(B21(A4([-1],[-2]),[-1]),B22([-2],[1])),1/6:A5(B31(A6([-1],[2]),[1]),B32([2],[1])),"
            + "1/6:A5(B11(A6([-1],[2]),[1]),B12([2],[1])))";

    public static void main(String[] args) throws IllegalAccessException {
        lookAtNewObject();
        lookAtCalls();
        CHECKS.finish();
    }

    private static void lookAtNewObject() throws IllegalAccessException {
        Set<Object> seen = Collections.newSetFromMap(new IdentityHashMap<>());
        Deque<Object> open = new ArrayDeque<>();
        open.add(new HiddenMoves());
        long elements = 0;
        while (!open.isEmpty()) {
            Object object = open.remove();
            if (!seen.add(object)) {
                continue;
            }
            elements += object.getClass().isArray() ? goThroughArray(object, open) : goThroughFields(object, open);
        }
        CHECKS.due("objects " + seen.size(), seen.size() < 3000 ? 1 : 0, 1);
        CHECKS.due("elements " + elements, elements < 60000 ? 1 : 0, 1);
    }

    private static int goThroughArray(Object array, Deque<Object> open) {
        int length = Array.getLength(array);
        if (!array.getClass().getComponentType().isPrimitive()) {
            for (int i = 0; i < length; i++) {
                open.add(Array.get(array, i));
            }
        }
        return length;
    }

    private static int goThroughFields(Object object, Deque<Object> open) throws IllegalAccessException {
        int fields = 0;
        for (Field field : object.getClass().getDeclaredFields()) {
            if (!Modifier.isStatic(field.getModifiers())) {
                fields++;
                field.setAccessible(true);
                if (!field.getType().isPrimitive()) {
                    open.add(field.get(object));
                }
            }
        }
        return fields;
    }

    private static void lookAtCalls() {
        HiddenMoves x = new HiddenMoves();
        goThroughCalls(x);
        com.sun.management.ThreadMXBean threads =
                (com.sun.management.ThreadMXBean) ManagementFactory.getThreadMXBean();
        long own = Thread.currentThread().getId();
        long before = threads.getThreadAllocatedBytes(own);
        for (int i = 0; i < 20; i++) {
            goThroughCalls(x);
        }
        long made = threads.getThreadAllocatedBytes(own) - before;
        CHECKS.due("calls made " + made + " bytes", made < 20000 ? 1 : 0, 1);
    }

    private static void goThroughCalls(HiddenMoves x) {
        Checks.read(x, "A1([1/0])");
        Checks.read(x, TEXT);
        for (int i = 0; i < 20; i++) {
            x.tell(1, 0, 0, 1, 2);
            x.tell(1, 0, 1, 1, 2);
            x.solve();
            x.check();
            x.expect();
            for (int player = 1; player <= 2; player++) {
                x.judge(player);
                x.reply(player, 0);
                x.good(player);
                x.plans(player);
                x.set(player, 0, 2);
            }
            for (int what = 0; what < 4; what++) {
                x.print(what);
                x.character(0);
                x.compare(what, 0);
            }
        }
    }
}
