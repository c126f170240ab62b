import java.lang.management.ManagementFactory;
import java.lang.reflect.InvocationTargetException;
import java.lang.reflect.Method;
import java.lang.reflect.Modifier;
import java.util.ArrayList;
import java.util.Comparator;
import java.util.List;
import java.util.Random;

/** Strange arguments in any state: no call throws, the same calls answer the same, and none makes objects. */
public final class StrangeCallsTest {
    private static final int[] STRANGE = {0, 1, 2, 3, 4, 5, 6, 7, 8, 9, 10, 11, 19, 20, 21, 31, 40, 41, 60, 61, 99, 100, 101,
        160, 161, 400, 401, 1 << 16, 1 << 30, -1, -2, -8, -10, -11, Integer.MIN_VALUE, Integer.MIN_VALUE + 1,
        Integer.MAX_VALUE, Integer.MAX_VALUE - 1};
    private static final Method[] METHODS = methods();

    private static Method[] methods() {
        List<Method> found = new ArrayList<>();
        for (Method m : DrawerOfArms.class.getDeclaredMethods()) {
            if (Modifier.isPublic(m.getModifiers())) {
                found.add(m);
            }
        }
        found.sort(Comparator.comparing(Method::getName));
        return found.toArray(new Method[0]);
    }

    public static void main(String[] args) throws Exception {
        Due.is("methods of the face", METHODS.length, 41);
        for (int run = 0; run < 300 && Due.wrongs() == 0; run++) {
            Due.is("run " + run + " again", play(run), play(run));
        }
        callsMakeNoObjects();
        Due.end("StrangeCallsTest");
    }

    /** A run of 512 calls: its answers in one number. */
    private static long play(int run) throws Exception {
        Random random = new Random(run);
        DrawerOfArms x = new DrawerOfArms();
        long answers = 0;
        for (int i = 0; i < 512; i++) {
            boolean tame = run % 3 != 0 && random.nextInt(4) != 0;
            Method m = METHODS[random.nextInt(METHODS.length)];
            Object[] with = new Object[m.getParameterCount()];
            for (int k = 0; k < with.length; k++) {
                int v = tame ? random.nextInt(k == 4 ? 10 : 3) : STRANGE[random.nextInt(STRANGE.length)];
                if (m.getParameterTypes()[k] == long.class) {
                    with[k] = random.nextInt(3) == 0 ? random.nextLong() : (Long) (long) v;
                } else {
                    with[k] = v;
                }
            }
            try {
                answers = answers * 31 + ((Number) m.invoke(x, with)).longValue();
            } catch (InvocationTargetException e) {
                Due.holds("run " + run + ", call " + i + ", " + m.getName() + " threw " + e.getCause(), false);
            }
        }
        return answers;
    }

    private static DrawerOfArms fullShop() {
        DrawerOfArms x = new DrawerOfArms();
        for (int i = 0; i < 8; i++) {
            x.arm(i == 7 ? 4 : i, i, i % 2, 4 + i % 3, i, 9 - i);
        }
        for (int d = 0; d < 5; d++) {
            x.doll(4 + d % 3, d, d, d % 3, 10 + d, d, 8 * d);
        }
        x.row(0, 2, 40);
        x.row(1, 2, 40);
        x.set(0, 1, 10);
        x.show(2, 3);
        String text = "arm 0 0 0 4 3 2;doll";
        x.row(3, 0, text.length());
        for (int i = 0; i < text.length(); i++) {
            x.set(3, i, text.charAt(i));
        }
        return x;
    }

    private static int dearCalls(DrawerOfArms x) {
        int sum = x.whole(0) + x.whole(1) + x.given(3) + x.cast() + x.dearest(0) + x.dearest(1) + x.queue(-1) + x.queue(2);
        sum += x.feast(60, 0) + x.judge(0, 2) + x.behind(0, 1, 2) + x.looks(0, 0, 0) + x.tea(1, 1) + x.shop(3) + x.fault();
        sum += x.act(6, 2, 3) + x.trace(4) + x.image() + x.days(9) + x.restore() + x.done(1, 0) + x.mend(0, 0, 0) + x.off(0);
        sum += x.row(1, 2, 40) + x.set(1, 0, 4) + x.copy(0, 1, 0, 20, 20) + x.may(1, 1) + x.best(1, 0) + x.says(2, 1);
        return sum + x.status(3) + x.armOf(3, 6) + x.dollOf(2, 8) + x.on(0, 0) + x.dye(1, 0, 3) + x.tell(2, 2, 30);
    }

    private static void callsMakeNoObjects() {
        com.sun.management.ThreadMXBean bean = (com.sun.management.ThreadMXBean) ManagementFactory.getThreadMXBean();
        if (!bean.isThreadAllocatedMemorySupported() || !bean.isThreadAllocatedMemoryEnabled()) {
            System.out.println("this machine doesn't count what is made");
            return;
        }
        long self = Thread.currentThread().getId();
        DrawerOfArms warm = fullShop();
        for (int i = 0; i < 20; i++) {
            dearCalls(warm);
        }
        bean.getThreadAllocatedBytes(self);
        DrawerOfArms x = fullShop();
        long before = bean.getThreadAllocatedBytes(self);
        int sum = 0;
        for (int i = 0; i < 14; i++) {
            sum += dearCalls(x);
        }
        long made = bean.getThreadAllocatedBytes(self) - before;
        Due.holds("bytes made in 490 calls: " + made + " (" + sum + ")", made < 1000);
        before = bean.getThreadAllocatedBytes(self);
        DrawerOfArms one = new DrawerOfArms();
        made = bean.getThreadAllocatedBytes(self) - before;
        Due.holds("bytes of one object: " + made + " (" + one.status(0) + ")", made < 40000);
    }
}
