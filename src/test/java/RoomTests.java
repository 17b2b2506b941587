import java.lang.management.ManagementFactory;
import java.lang.reflect.Field;
import java.lang.reflect.InvocationTargetException;
import java.lang.reflect.Method;
import java.lang.reflect.Modifier;
import java.util.Random;

/** Any numbers at all are answered without a throw, in any state; and calls make no objects. */
public final class RoomTests {
    private static final String WAR = "war rain 30;land from 0 week 7 rests 96 year 10 20 leap 2 in 1 adds 1;"
        + "land from 999 week 2 rests 1 year 1 1 1 1 1 1 1 1 leap 9 in 7 adds 9;land from 3 week 10 rests 0 year 60;"
        + "feast 0 0 2 for 1;feast 1 0 0 for 9;truce 0 from 40 to 45;truce 2 from 0 to 1999;";
    private static final int[] EDGES = {Integer.MIN_VALUE, Integer.MIN_VALUE + 1, -2000, -61, -2, -1, 0, 1, 2, 3, 4, 7, 8, 9, 10,
        12, 20, 21, 40, 41, 59, 60, 61, 100, 101, 200, 201, 999, 1199, 1200, 1999, 2000, 2001, 32767, 65536, 2000000000,
        2000000001, Integer.MAX_VALUE - 1, Integer.MAX_VALUE};

    public static void main(String[] args) throws IllegalAccessException {
        for (int seed = 0; seed < 300; seed++) {
            anyNumbers(new Random(seed), seed % 3 == 0);
        }
        for (int seed = 0; seed < 200; seed++) {
            anyBytes(new Random(seed));
        }
        noObjects();
        smallObject();
        Due.finish("RoomTests");
    }

    private static void anyNumbers(Random random, boolean withoutWar) throws IllegalAccessException {
        TwoCalendars x = new TwoCalendars();
        if (!withoutWar) {
            Due.feed(x, WAR);
            x.war();
        }
        Method[] methods = TwoCalendars.class.getDeclaredMethods();
        for (int call = 0; call < 480; call++) {
            Method method = methods[random.nextInt(methods.length)];
            if (!Modifier.isPublic(method.getModifiers()) || method.getName().equals("war") && random.nextInt(4) != 0) {
                continue;
            }
            Object[] values = new Object[method.getParameterCount()];
            for (int i = 0; i < values.length; i++) {
                int v = random.nextInt(3) == 0 ? EDGES[random.nextInt(EDGES.length)] : random.nextInt(3);
                if (method.getParameterTypes()[i] == long.class) {
                    values[i] = random.nextBoolean() ? (long) v : random.nextLong();
                } else {
                    values[i] = v;
                }
            }
            try {
                method.invoke(x, values);
                Due.isTrue("answered", true);
            } catch (InvocationTargetException e) {
                Due.isTrue(method.getName() + java.util.Arrays.toString(values) + " threw " + e.getCause(), false);
            }
        }
    }

    private static void anyBytes(Random random) {
        TwoCalendars x = new TwoCalendars();
        String signs = "war land feast truce from to 0 1 2 ; ; rain week rests year leap in adds for 7";
        for (int text = 0; text < 20; text++) {
            StringBuilder s = new StringBuilder(random.nextBoolean() ? "war rain 0;" : "");
            String[] parts = signs.split(" ");
            for (int i = 0; i < 100; i++) {
                s.append(random.nextInt(50) == 0 ? "" + (char) random.nextInt(256) : parts[random.nextInt(parts.length)]).append(' ');
            }
            Due.feed(x, s.toString());
            int lines = x.war();
            Due.isTrue("war", lines == -4 && x.fault(0) > 0 && x.fault(1) >= 0 && x.fault(1) <= s.length() || lines >= 0);
        }
    }

    /** The bytes that this thread has taken so far. */
    private static long taken() {
        return ((com.sun.management.ThreadMXBean) ManagementFactory.getThreadMXBean()).getThreadAllocatedBytes(Thread.currentThread().getId());
    }

    private static void noObjects() {
        TwoCalendars x = new TwoCalendars();
        Due.feed(x, WAR);
        x.war();
        x.row(0, 1, 12);
        x.row(1, 1, 12);
        useAll(x);
        taken();
        long before = taken();
        long nothing = taken() - before;
        before = taken();
        useAll(x);
        long used = taken() - before - nothing;
        Due.isTrue("calls take no room, took " + used, used <= 0);
    }

    private static void useAll(TwoCalendars x) {
        x.found(0, 0, 5, 2);
        x.grant(1, 5, 900);
        x.image(0);
        x.back(0);
        x.saints(0, 0, 0, 20, 2);
        x.bridge(0, 0, 1999, 5);
        x.oldest(0);
        x.idle(0);
        x.fits(1, 0, 1999);
        x.ask(1, 0, 1999);
        x.begin(0, 1, 0, 1999, 200);
        x.game(0, 1, 0, 40);
        x.drawn(1, 0, 100, 1);
        x.luck(1, 20, 0, 0, 100);
        x.share(7, 0, 1999, 0);
        x.alike(0, 2, 0);
        x.meets(0, 1, 1, 1, 0);
        x.ends(0);
        x.undo();
        x.undo();
        x.undo();
        x.paste(0, 0, 1, 0, 12);
        x.war();
        x.back(0);
    }

    /** The elements of all arrays of one object, which a run of several must find room for. */
    private static void smallObject() throws IllegalAccessException {
        int[] counted = {0, 0};
        count(new TwoCalendars(), counted);
        Due.isTrue("objects: " + counted[0], counted[0] <= 150);
        Due.isTrue("elements: " + counted[1], counted[1] <= 30000);
    }

    private static void count(Object o, int[] counted) throws IllegalAccessException {
        counted[0]++;
        if (o.getClass().isArray()) {
            int length = java.lang.reflect.Array.getLength(o);
            counted[1] += length;
            for (int i = 0; i < length && !o.getClass().getComponentType().isPrimitive(); i++) {
                count(java.lang.reflect.Array.get(o, i), counted);
            }
            return;
        }
        for (Field f : o.getClass().getDeclaredFields()) {
            if (!Modifier.isStatic(f.getModifiers())) {
                counted[1]++;
                f.setAccessible(true);
                if (!f.getType().isPrimitive() && f.get(o) != null) {
                    count(f.get(o), counted);
                }
            }
        }
    }
}
