import java.lang.management.ManagementFactory;
import java.lang.reflect.Array;
import java.lang.reflect.Field;
import java.lang.reflect.Method;
import java.lang.reflect.Modifier;
import java.util.ArrayList;
import java.util.Arrays;
import java.util.IdentityHashMap;
import java.util.List;
import java.util.Map;
import java.util.Random;

/** No call throws, whatever its arguments and the state; a new object is small, and no call makes anything. */
public final class RoomTest {
    private static final int[] ODD = {Integer.MIN_VALUE, Integer.MIN_VALUE + 1, -65536, -256, -17, -2, -1, 0, 1, 2, 3, 4, 5,
        7, 8, 9, 12, 13, 15, 16, 17, 20, 25, 26, 100, 101, 120, 121, 140, 255, 256, 4095, 4096, 8190, 8191, 65535, 65536,
        Integer.MAX_VALUE - 1, Integer.MAX_VALUE};
    private static final String[] TEXTS = {"b:255;d:0;o:4;l:99;f:1;v:3;w:255;h:254;y:32,0,7;g:99,0,1;m:99;p:4,32",
        "f:0;n:99,99;s:99,99;t:0>255,1>0,2>255,255>0;h:0;y:0,32,0;v:1;v:2;v:3;v:3;v:3;v:3", "d:0;d:0", "f:1",
        "b:1;b:1;b:1;b:1;b:1;b:1;b:1;b:1;b:1;b:1;b:1;b:1", "o:1;f:0;g:0,0,0;w:0;m:99;p:1,32;s:99,99;n:0,0"};
    private static final int MOST_PARTS = 25000;
    private static int wrong = 0;

    public static void main(String[] args) throws Exception {
        neverThrows();
        isSmall();
        makesNothing();
        System.out.println(wrong == 0 ? "no call throws or makes anything" : wrong + " faults");
        if (wrong != 0) System.exit(1);
    }

    private static Method[] face() {
        return Arrays.stream(RawPictures.class.getDeclaredMethods()).filter(m -> Modifier.isPublic(m.getModifiers()))
            .sorted((a, b) -> a.getName().compareTo(b.getName())).toArray(Method[]::new);
    }

    private static void tell(RawPictures x, String text) {
        x.check(0);
        for (int at = 0; at < text.length(); at += 20) {
            int[] five = new int[5];
            for (int i = 0; i < 20; i++) five[i / 4] = five[i / 4] << 8 | (at + i < text.length() ? text.charAt(at + i) : 0);
            x.feed(five[0], five[1], five[2], five[3], five[4]);
        }
        if (x.stages(text.length()) < 0) {
            wrong++;
            System.out.println("no stages: " + text);
        }
    }

    private static void neverThrows() {
        Method[] face = face();
        Random random = new Random(7);
        for (int run = 0; run < 200; run++) {
            RawPictures x = new RawPictures();
            for (int call = 0; call < 1500; call++) {
                if (call % 50 == 0) {
                    x.raw(4 + 2 * random.nextInt(7), 4 + 2 * random.nextInt(7), random.nextInt(4));
                    x.scene(random.nextInt(7), random.nextInt(256), random.nextInt(256));
                    tell(x, TEXTS[random.nextInt(TEXTS.length)]);
                }
                Method m = face[random.nextInt(face.length)];
                Object[] values = new Object[m.getParameterCount()];
                for (int i = 0; i < values.length; i++) {
                    int odd = random.nextBoolean() ? random.nextInt(17) : ODD[random.nextInt(ODD.length)];
                    values[i] = m.getParameterTypes()[i] == boolean.class ? random.nextBoolean() : (Object) odd;
                }
                try {
                    m.invoke(x, values);
                } catch (Exception e) {
                    wrong++;
                    System.out.println(m.getName() + Arrays.toString(values) + " throws " + e.getCause());
                    return;
                }
            }
        }
    }

    /** Fields and elements of a new object and of all that it holds. */
    private static void isSmall() throws Exception {
        Map<Object, Boolean> seen = new IdentityHashMap<>();
        List<Object> todo = new ArrayList<>();
        todo.add(new RawPictures());
        int parts = 0;
        while (!todo.isEmpty()) {
            Object o = todo.remove(todo.size() - 1);
            if (o == null || seen.put(o, true) != null) continue;
            if (o.getClass().isArray()) {
                parts += Array.getLength(o);
                if (!o.getClass().getComponentType().isPrimitive()) todo.addAll(Arrays.asList((Object[]) o));
                continue;
            }
            for (Field f : o.getClass().getDeclaredFields()) {
                if (Modifier.isStatic(f.getModifiers())) continue;
                parts++;
                f.setAccessible(true);
                if (!f.getType().isPrimitive()) todo.add(f.get(o));
            }
        }
        System.out.println("a new object: " + seen.size() + " objects and arrays, " + parts + " fields and elements");
        if (parts > MOST_PARTS || seen.size() > 100) {
            wrong++;
            System.out.println("that is too much");
        }
    }

    private static int ask(RawPictures x) {
        int sum = x.left(3, 1, 1, 1) + x.found(2, 0) + x.groups(2, 1) + x.dark(3, 1) + x.middle(2, 0, 0) + x.way(0, 0);
        sum += x.ways(1) + x.white(7, 0) + x.base(12, 1, 1) + x.tone(9, 4, 1, 1) + x.levels(12, 0, 3) + x.noise(12, 0, 4, 1);
        sum += x.percent(12, 0, 50) + x.bits(12, 1) + x.ring(12, 1, 2, 1) + x.edges(12, 100) + x.falseOnes(12, 5);
        sum += x.places(12, 1, 100, 1) + x.unlike(5, 12, 0) + x.without(2, 0) + x.best(1, 0) + x.keep() + x.check(0);
        sum += (x.pixel(1, 1, sum & 255) ? 1 : 0) + x.dead(2, 2, true) + (x.scene(4, 3, 200) ? 1 : 0) + (x.undo() ? 1 : 0);
        return sum;
    }

    private static void makesNothing() {
        com.sun.management.ThreadMXBean threads = (com.sun.management.ThreadMXBean) ManagementFactory.getThreadMXBean();
        RawPictures x = new RawPictures();
        x.raw(16, 16, 1);
        x.scene(1, 7, 11);
        tell(x, TEXTS[0]);
        int sum = 0;
        for (int i = 0; i < 20; i++) sum += ask(x);
        long thread = Thread.currentThread().getId();
        long before = threads.getThreadAllocatedBytes(thread);
        for (int i = 0; i < 50; i++) {
            sum += ask(x);
            x.feed(0x623a313b, 0x663a3031, i, sum, -1);
            sum += x.stages(7) + x.count(1);
            x.undo();
        }
        long made = threads.getThreadAllocatedBytes(thread) - before;
        System.out.println("50 rounds of calls made " + made + " bytes");
        if (made > 10000) {
            wrong++;
            System.out.println("that is too much");
        }
    }
}
