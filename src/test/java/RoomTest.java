import java.lang.management.ManagementFactory;
import java.lang.reflect.Array;
import java.lang.reflect.Field;
import java.lang.reflect.Modifier;
import java.util.ArrayDeque;
import java.util.Deque;
import java.util.IdentityHashMap;
import java.util.Map;

/** How much room an object takes: all that it holds is made with it, and no call makes more. */
public final class RoomTest {
    private static final int MOST_OBJECTS = 400;
    private static final int MOST_ELEMENTS = 10000;
    private static final int MOST_CALLS = 512;
    private static final String TOWN = "sn8k99;ea0b1;ea1b2;ea2b3;ea3b4w1;ea4b5;ea5b6;ea6b7;ea7b0w1;ea0b4;ea2b6;ea1b7y9;ea3b5;p;ph7f9;ph3f0;ph5";
    private static final String LAW = "y:!(y>3&w<2|l=1)?[f*2-[y+1]/2]*3;y:w+f-y/3+l*2+c-d";

    private static int objects;
    private static int elements;

    public static void main(String[] args) throws IllegalAccessException {
        WallChapels x = new WallChapels();
        measure(x);
        Kit.same("few objects: " + objects, objects <= MOST_OBJECTS, true);
        Kit.same("few fields and elements: " + elements, elements <= MOST_ELEMENTS, true);
        int objectsFirst = objects;
        int elementsFirst = elements;
        for (int call = 0; call < MOST_CALLS; call++) {
            anyCall(x, call);
        }
        measure(x);
        Kit.same("objects after all calls", objects, objectsFirst);
        Kit.same("elements after all calls", elements, elementsFirst);
        noCallMakesAnything();
        Kit.close();
    }

    /** Counts what can be come to from an object by fields and elements. */
    private static void measure(Object start) throws IllegalAccessException {
        objects = 0;
        elements = 0;
        Map<Object, Boolean> met = new IdentityHashMap<>();
        Deque<Object> left = new ArrayDeque<>();
        left.add(start);
        met.put(start, true);
        while (!left.isEmpty()) {
            Object here = left.remove();
            objects++;
            if (here.getClass().isArray()) {
                elements += Array.getLength(here);
                if (here instanceof Object[] row) {
                    for (Object one : row) {
                        meet(one, met, left);
                    }
                }
                continue;
            }
            for (Field field : here.getClass().getDeclaredFields()) {
                if (!Modifier.isStatic(field.getModifiers())) {
                    elements++;
                    field.setAccessible(true);
                    if (!field.getType().isPrimitive()) {
                        meet(field.get(here), met, left);
                    }
                }
            }
        }
    }

    private static void meet(Object one, Map<Object, Boolean> met, Deque<Object> left) {
        if (one != null && met.put(one, true) == null) {
            left.add(one);
        }
    }

    /** The machine's own count of what a thread has made: the second round of all calls adds nothing to it. */
    private static void noCallMakesAnything() {
        if (!(ManagementFactory.getThreadMXBean() instanceof com.sun.management.ThreadMXBean bean)
                || !bean.isThreadAllocatedMemorySupported()) {
            System.out.println("this machine does not tell what a thread has made");
            return;
        }
        bean.setThreadAllocatedMemoryEnabled(true);
        long thread = Thread.currentThread().getId();
        long made = 0;
        for (int round = 0; round < 3; round++) {
            WallChapels x = new WallChapels();
            Kit.tape(x, TOWN);
            x.text(0);
            Kit.tape(x, LAW);
            x.text(1);
            x.law(0);
            long before = bean.getThreadAllocatedBytes(thread);
            for (int call = 0; call < MOST_CALLS - 30; call++) {
                anyCall(x, call);
            }
            made = bean.getThreadAllocatedBytes(thread) - before;
        }
        // The counting itself may make a little; one object a call would make some 8000 bytes.
        Kit.same("bytes made by the calls: " + made, made < 4000, true);
    }

    private static int anyCall(WallChapels x, int call) {
        int a = call / 7 % 4;
        int c = call / 5 % 8;
        switch (call % 40) {
            case 0: return x.day();
            case 1: return x.wall(c);
            case 2: return x.lamp(c);
            case 3: return x.moves(a, c);
            case 4: return x.preach(a);
            case 5: return x.give(9);
            case 6: return x.years(3, call);
            case 7: return x.undo();
            case 8: return x.log(a, 0);
            case 9: return x.walk(a, 0);
            case 10: return x.check(a, 1);
            case 11: return x.far(c, a);
            case 12: return x.way(c, a);
            case 13: return x.feast(c, call & 1);
            case 14: return x.soon(a);
            case 15: return x.worn(c, 60);
            case 16: return x.seen(c, true);
            case 17: return x.knocked(-1);
            case 18: return x.ask();
            case 19: return x.walls(1 << c);
            case 20: return x.parted(c, a);
            case 21: return x.draws(a, c);
            case 22: return x.goes(a);
            case 23: return x.goers(c);
            case 24: return x.game(0, 1, c, a, 0);
            case 25: return x.rests(0, 1, -1);
            case 26: return x.odds(a, 33);
            case 27: return x.shares(c, 100);
            case 28: return x.all(call / 40 % 12);
            case 29: return x.around(c, 9);
            case 30: return x.image();
            case 31: return x.back();
            case 32: return x.count(call / 40 % 13);
            case 33: return x.fault(call / 40 % 3);
            case 34: return x.text(call / 40 % 3);
            case 35: return x.feed('y' << 24 | ':' << 16 | 'y' << 8, 0, 0, 0, 0);
            case 36: return x.end(3) ? 1 : 0;
            case 37: return x.corner(c, 2) + x.street(c, 3);
            case 38: return x.council(c) ? 1 : 0;
            default: return x.law(a - 1) ? 1 : 0;
        }
    }
}
