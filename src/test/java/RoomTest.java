import java.lang.management.ManagementFactory;
import java.lang.reflect.Array;
import java.lang.reflect.Field;
import java.lang.reflect.Modifier;
import java.util.ArrayDeque;
import java.util.Collections;
import java.util.IdentityHashMap;
import java.util.Set;

/** The room that a run takes (rule 12 of LANGUAGE.md): what an object is made of, and that no call makes anything. */
final class RoomTest {
    private static final Due DUE = new Due();
    private static final com.sun.management.ThreadMXBean THREADS =
            (com.sun.management.ThreadMXBean) ManagementFactory.getThreadMXBean();

    private RoomTest() {
    }

    /** Objects and arrays, then fields and elements, of all that an object holds. */
    private static int[] room(Object whole) throws IllegalAccessException {
        Set<Object> found = Collections.newSetFromMap(new IdentityHashMap<>());
        ArrayDeque<Object> open = new ArrayDeque<>();
        found.add(whole);
        open.add(whole);
        int parts = 0;
        while (!open.isEmpty()) {
            Object one = open.remove();
            if (one.getClass().isArray()) {
                int length = Array.getLength(one);
                parts += length;
                for (int i = 0; i < length && !one.getClass().getComponentType().isPrimitive(); i++) {
                    visit(Array.get(one, i), found, open);
                }
            } else {
                for (Field f : one.getClass().getDeclaredFields()) {
                    if (!Modifier.isStatic(f.getModifiers())) {
                        parts++;
                        f.setAccessible(true);
                        visit(f.getType().isPrimitive() ? null : f.get(one), found, open);
                    }
                }
            }
        }
        return new int[] {found.size(), parts};
    }

    private static void visit(Object part, Set<Object> found, ArrayDeque<Object> open) {
        if (part != null && found.add(part)) {
            open.add(part);
        }
    }

    private static long allCalls(HallTables t) {
        long sum = t.feed(0x736f7274, 0x20612031, 0x3b202020, 0x20202020, 0x20202020) + t.back(2) + t.place();
        for (int house = -1; house < 11; house++) {
            for (int man = -1; man < 7; man++) {
                for (int sort = -1; sort < 6; sort++) {
                    sum += t.may(man, house, sort) + t.way(man, house, sort, 2, 1) + t.step(man, house, sort, 0, 1);
                    sum += t.go(man, house, sort) + t.buy(man, sort) + t.rid(man, sort, 1, 2) + t.get(man, sort) + t.has(man, sort);
                }
                sum += t.most(man, house) + t.inReach(man) + t.meet(man, man + 1, 1) + t.round(man, 1 << house);
                sum += t.undo() ? 1 : t.man(man, 4);
            }
            for (int sort = -1; sort < 6; sort++) {
                sum += t.table(house, sort) + t.worth(house, sort) + t.carried(sort, house) + t.helps(sort, house, 0);
                sum += t.turned(sort, house) + t.see(house, sort, 1);
            }
            sum += t.door(house, 0) + t.riches(house) + t.fits(3) + t.visitors(house, 2, true) + t.rest(0) + t.year(house, 9, 1);
            sum += t.hold(house) && t.restore(house) ? 1 : t.count(house);
        }
        return sum + t.forget() + t.read();
    }

    public static void main(String[] args) throws IllegalAccessException {
        int[] room = room(new HallTables());
        DUE.is(1, "objects and arrays of one object: " + room[0], room[0] <= 200, true);
        DUE.is(1, "fields and elements of one object: " + room[1], room[1] <= 80_000, true);
        HallTables t = Feeder.town(EdgeTownTest.widest());
        int[] begun = room(t);
        DUE.is(1, "a wide town takes no more objects", begun[0], room[0]);
        DUE.is(1, "a wide town takes no more elements", begun[1], room[1]);
        // Once ahead: what the machine itself makes when a line is gone through for the first time.
        allCalls(t);
        THREADS.getThreadAllocatedBytes(Thread.currentThread().getId());
        Feeder.read(t, EdgeTownTest.widest());
        long before = THREADS.getThreadAllocatedBytes(Thread.currentThread().getId());
        long empty = THREADS.getThreadAllocatedBytes(Thread.currentThread().getId());
        long sum = allCalls(t);
        long after = THREADS.getThreadAllocatedBytes(Thread.currentThread().getId());
        // A few bytes may be the machine's own: any call that made something would make it more than ten times.
        long made = after - empty - (empty - before);
        DUE.is(1, "all calls made " + made + " bytes (their answers make " + sum + ")", made < 160, true);
        DUE.is(1, "then no more objects", room(t)[0] <= room[0], true);
        DUE.is(1, "then no more elements", room(t)[1] <= room[1], true);
        DUE.end();
    }
}
