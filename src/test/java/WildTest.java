import java.lang.reflect.InvocationTargetException;
import java.lang.reflect.Method;
import java.lang.reflect.Modifier;
import java.util.ArrayList;
import java.util.Arrays;
import java.util.Comparator;
import java.util.List;
import java.util.Random;

/** Whatever the arguments, whatever the state: no call throws, and what is no such one is told so. */
final class WildTest {
    private static final int[] ODD = {Integer.MIN_VALUE, Integer.MIN_VALUE + 1, -1000, -33, -32, -10, -2, -1, 0, 1, 2, 3, 4, 5,
        6, 9, 10, 11, 19, 20, 29, 30, 31, 32, 33, 59, 60, 64, 99, 100, 400, 401, 512, 1023, 1024, 2000, 10240, 65536,
        1 << 30, Integer.MAX_VALUE - 1, Integer.MAX_VALUE};
    private static final Random RANDOM = new Random(7);
    private static final Due DUE = new Due();

    private WildTest() {
    }

    private static String fullTown() {
        StringBuilder t = new StringBuilder("sort a 99; sort b 0; sort c 50; sort d 50; sort e 1;");
        for (char h = 'f'; h <= 'o'; h++) {
            t.append("house ").append(h).append(';');
        }
        for (int i = 0; i < 20; i++) {
            t.append("door ").append((char) ('f' + i % 10)).append(' ').append((char) ('f' + (i % 10 + 1 + i / 10) % 10))
                    .append(' ').append(99 - i).append(';');
        }
        for (char m = 'p'; m <= 'u'; m++) {
            t.append("man ").append(m).append(' ').append((char) (m - 10)).append(": a 3, b 3, c 3, d 3, e 3;");
        }
        for (int i = 0; i < 20; i++) {
            t.append("call ").append((char) ('p' + i % 6)).append(' ').append((char) ('f' + (i % 6 + 1 + i % 9) % 10)).append(';');
        }
        return t.toString();
    }

    private static Object argument(Class<?> type, boolean mild) {
        if (type == boolean.class) {
            return RANDOM.nextBoolean();
        }
        return mild ? RANDOM.nextInt(12) - 1 : ODD[RANDOM.nextInt(ODD.length)];
    }

    private static void call(HallTables town, Method m, boolean mild) {
        Object[] arguments = Arrays.stream(m.getParameterTypes()).map(t -> argument(t, mild)).toArray();
        boolean fine = true;
        try {
            m.invoke(town, arguments);
        } catch (InvocationTargetException | IllegalAccessException e) {
            fine = false;
        }
        DUE.is(35, m.getName() + Arrays.toString(arguments) + " throws nothing", fine, true);
    }

    /** Of every method with arguments: the worst of all at once are no such ones. */
    private static void worst(HallTables t) {
        for (int x : new int[] {Integer.MIN_VALUE, Integer.MAX_VALUE, -2}) {
            DUE.is(6, "door", t.door(x, x), -1);
            DUE.is(7, "worth", t.worth(x, x), -1);
            DUE.is(8, "table", t.table(x, x), -1);
            DUE.is(9, "man", t.man(x, x), -1);
            DUE.is(10, "has", t.has(x, x), -1);
            DUE.is(11, "may", t.may(x, x, x), -1);
            DUE.is(12, "go", t.go(x, x, x), -1);
            DUE.is(13, "buy", t.buy(x, x), -1);
            DUE.is(15, "way", t.way(x, x, x, x, x), -1);
            DUE.is(16, "step", t.step(x, x, x, x, x), -1);
            DUE.is(17, "rid", t.rid(x, x, x, x), -1);
            DUE.is(18, "get", t.get(x, x), -1);
            DUE.is(19, "inReach", t.inReach(x), -1);
            DUE.is(20, "most", t.most(x, x), -1);
            DUE.is(21, "meet", t.meet(x, x, x), -1);
            DUE.is(22, "riches", t.riches(x), -1);
            DUE.is(23, "round", t.round(0, x), -1);
            DUE.is(24, "carried", t.carried(x, x), -1);
            DUE.is(25, "helps", t.helps(x, x, x), -1);
            DUE.is(26, "turned", t.turned(x, x), -1);
            DUE.is(27, "year", t.year(x, x, x), -1);
            DUE.is(28, "rest", t.rest(x), -1);
            DUE.is(29, "see", t.see(x, x, x), -1);
            DUE.is(31, "fits", t.fits(x), -1);
            DUE.is(32, "visitors", t.visitors(x, x, true), -1);
            DUE.is(33, "hold", t.hold(x), false);
            DUE.is(34, "restore", t.restore(x), false);
            DUE.is(35, "count", t.count(x), -1);
        }
    }

    public static void main(String[] args) {
        List<Method> face = new ArrayList<>();
        for (Method m : HallTables.class.getDeclaredMethods()) {
            if (Modifier.isPublic(m.getModifiers())) {
                face.add(m);
            }
        }
        face.sort(Comparator.comparing(Method::getName));
        DUE.is(1, "methods of the face", face.size(), 34);
        for (int run = 0; run < 20; run++) {
            HallTables town = run % 2 == 0 ? new HallTables() : Feeder.town(fullTown());
            worst(town);
            for (int i = 0; i < 2000; i++) {
                Method m = face.get(RANDOM.nextInt(face.size()));
                if (!m.getName().equals("read") || RANDOM.nextInt(20) == 0) {
                    call(town, m, run % 4 > 1 || RANDOM.nextInt(3) == 0);
                }
            }
        }
        DUE.end();
    }
}
