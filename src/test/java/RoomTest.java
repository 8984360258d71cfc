import java.lang.management.ManagementFactory;
import java.lang.reflect.Method;
import java.lang.reflect.Modifier;
import java.util.Arrays;
import java.util.Comparator;
import java.util.Random;

/** All calls of a run live in one room: only constructors make objects, and the dearest runs end soon. */
public final class RoomTest {
    private static final Told TOLD = new Told("RoomTest");
    private static final String FULL = "valley law 3 frost 9 odds 4;bridge holds 90 toll 2;bridge holds 99 toll 9;"
        + "bridge holds 50 toll 1;cart 51 by 0;cart 40 by 1;cart 33 by 2;cart 21 by 0;cart 77 by 1;cart 8 by 2;cart 13 by 0;"
        + "ward 0 over 50 to 1;ward 1 over 60 to 2;ward 2 over 70 to halt;ward 0 over 90 to halt;ward 2 over 30 to 0;"
        + "frost at 1;frost at 3;frost at 5;frost at 6;";
    private static final Method[] METHODS = publicMethods();
    // What they are called with: small numbers, and some that are none.
    private static final int[] NUMBERS = {0, 1, 2, 3, 6, 7, -1, -2, 60, 61, Integer.MAX_VALUE, Integer.MIN_VALUE};

    public static void main(String[] args) throws Exception {
        callsMakeNothing();
        anyArgumentsAreAnswered();
        TOLD.close();
    }

    /** In the order of their names: the machine's own order may be another one each time. */
    private static Method[] publicMethods() {
        return Arrays.stream(SagMemory.class.getDeclaredMethods())
            .filter(method -> Modifier.isPublic(method.getModifiers()))
            .sorted(Comparator.comparing(Method::getName))
            .toArray(Method[]::new);
    }

    private static int dear(SagMemory x, int i) {
        int sum = x.send(i % 7, i % 4 - 1) + x.undo();
        sum += x.least() + x.order(0) + x.orders() + x.across() + x.routes() + x.route(0) + x.safe();
        sum += x.sets(0, 0) + x.ask(0, 0) + x.leaves(0, 0) + x.loads(1, i % 7) + x.liars(1) + x.laws(1);
        sum += x.share(i % 7, 0) + x.rests(0, 1) + x.chance(0, 0) + (int) x.mean(0, 0) + x.luck(i, 20, 0);
        sum += x.row(2, 3, 60) + x.image(0) + x.back(0) + x.forget() + x.worst() + x.free(0, 6) + x.most(0, 6);
        return sum;
    }

    private static void callsMakeNothing() {
        com.sun.management.ThreadMXBean bean = (com.sun.management.ThreadMXBean) ManagementFactory.getThreadMXBean();
        SagMemory x = Told.of(FULL);
        Told.fill(x, 0, 0, 51);
        Told.fill(x, 1, 1, 0, 6, 999);
        long self = Thread.currentThread().getId();
        int sum = 0;
        long before = bean.getThreadAllocatedBytes(self);
        for (int i = 0; i < 20; i++) {
            sum += dear(x, i);
        }
        long made = bean.getThreadAllocatedBytes(self) - before;
        TOLD.due("bytes made by 20 times all dear calls (" + made + ", sum " + sum + ")", made < 20000 ? 1 : 0, 1);
    }

    /** Nothing is thrown, whatever the arguments, in any state; the answers are asked elsewhere. */
    private static void anyArgumentsAreAnswered() throws Exception {
        Random random = new Random(3);
        for (int run = 0; run < 150; run++) {
            SagMemory x = new SagMemory();
            for (int i = 0; i < 400; i++) {
                if (random.nextInt(60) == 0) {
                    Told.tell(x, random.nextBoolean() ? FULL : FULL.substring(0, random.nextInt(FULL.length())));
                }
                callAny(x, random);
            }
        }
        TOLD.due("all were answered", 1, 1);
    }

    private static void callAny(SagMemory x, Random random) throws Exception {
        Method method = METHODS[random.nextInt(METHODS.length)];
        Object[] arguments = new Object[method.getParameterCount()];
        for (int i = 0; i < arguments.length; i++) {
            int number = NUMBERS[random.nextInt(random.nextInt(3) == 0 ? NUMBERS.length : 4)];
            boolean wide = method.getParameterTypes()[i] == long.class;
            arguments[i] = wide ? (Object) Long.valueOf(number) : (Object) Integer.valueOf(number);
        }
        method.invoke(x, arguments);
    }
}
