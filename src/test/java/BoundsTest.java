import java.lang.reflect.Method;
import java.util.Arrays;
import java.util.HashSet;
import java.util.Set;

/**
 * Every argument of every question at its ends, on VALLEYS from nothing to full: the last number that is
 * allowed and the first that is not, on both sides, in all combinations with those of the other arguments.
 */
public final class BoundsTest {
    private static final Told TOLD = new Told("BoundsTest");
    // Each argument: b a BRIDGE, c a CART (or its turn), w a WARD, s a SLOT, l a LAW, 2 what 0 .. 1, 3 what 0 .. 2,
    // d a seed, n how many winters, k any number. v: there needs to be a VALLEY.
    private static final String[] REFUSED_BY_2 = {
        "bridge b2", "cart c2", "ward w3", "cold c", "goes c", "comes c", "over b", "waits v", "deep bc", "load bck", "sag bc",
        "all c", "deepest c", "creak c", "loudest v", "pays c", "tolls v", "wipes c", "breaks b", "fails v", "kept b", "last bc",
        "broken c", "free bc", "most bc", "least v", "order c", "orders v", "across v", "routes v", "route c", "safe v", "worst v",
        "forget v", "sets sb", "surely sb", "never sb", "fewest sb", "ask sb", "leaves sb", "loads sc", "light sc", "heavy sc",
        "liars sv", "laws sv", "by lv", "law v", "share c2", "rests cc", "rest cc", "chance b2", "mean b2", "drawn d2v", "luck dnb",
    };
    private static final String[] REFUSED_BY_1000 = {"gives c", "spare b", "spared c"};
    // How many BRIDGES, CARTS and WARDS.
    private static final int[][] SIZES = {{0, 0, 0}, {1, 0, 0}, {1, 1, 0}, {2, 0, 1}, {2, 3, 2}, {3, 6, 4}, {3, 7, 5}};

    private final SagMemory x;
    private final int[] size;
    private final boolean valley;

    private BoundsTest(SagMemory x, int[] size, boolean valley) {
        this.x = x;
        this.size = size;
        this.valley = valley;
        // A row of none is one that a BRIDGE can remember, and a book that says nothing.
        for (int slot = 0; slot < 4; slot++) {
            x.row(slot, slot, 0);
        }
    }

    public static void main(String[] args) throws Exception {
        for (int[] size : SIZES) {
            new BoundsTest(Told.of(text(size)), size, true).askAll();
        }
        int[] none = {0, 0, 0};
        new BoundsTest(new SagMemory(), none, false).askAll();
        SagMemory gone = Told.of(text(SIZES[6]));
        Told.tell(gone, "\n");
        new BoundsTest(gone, none, false).askAll();
        SagMemory smaller = Told.of(text(SIZES[6]));
        Told.tell(smaller, text(SIZES[4]));
        new BoundsTest(smaller, SIZES[4], true).askAll();
        allAreAsked();
        TOLD.close();
    }

    private static String text(int[] size) {
        StringBuilder text = new StringBuilder(Told.V);
        for (int b = 0; b < size[0]; b++) {
            text.append("bridge holds 50 toll 1;");
        }
        for (int c = 0; c < size[1]; c++) {
            text.append("cart ").append(20 - c).append(" by ").append(c % size[0]).append(";");
        }
        for (int w = 0; w < size[2]; w++) {
            text.append("ward ").append(w % size[0]).append(" over 90 to halt;");
        }
        return text.toString();
    }

    /** No question of the class is missing above. */
    private static void allAreAsked() {
        Set<String> left = new HashSet<>();
        for (Method method : SagMemory.class.getDeclaredMethods()) {
            if (java.lang.reflect.Modifier.isPublic(method.getModifiers())) {
                left.add(method.getName());
            }
        }
        // Those that change something, and those that never refuse, are asked in other tests.
        left.removeAll(Set.of("feed", "end", "valley", "send", "freeze", "undo", "anew", "rate", "image", "back", "row", "write",
            "paste", "fault", "count"));
        for (String[] calls : new String[][] {REFUSED_BY_2, REFUSED_BY_1000}) {
            for (String call : calls) {
                TOLD.due(call + " is there", left.remove(call.split(" ")[0]) ? 1 : 0, 1);
            }
        }
        TOLD.due("not asked: " + left, left.size(), 0);
    }

    private void askAll() throws Exception {
        for (String call : REFUSED_BY_2) {
            ask(call.split(" ")[0], call.split(" ")[1], -2);
        }
        for (String call : REFUSED_BY_1000) {
            ask(call.split(" ")[0], call.split(" ")[1], -1000);
        }
    }

    private int low(char kind) {
        return kind == 'n' ? 1 : kind == 'k' ? Integer.MIN_VALUE : 0;
    }

    private int high(char kind) {
        switch (kind) {
            case 'b': return size[0] - 1;
            case 'c': return size[1] - 1;
            case 'w': return size[2] - 1;
            case 's': case 'l': return 3;
            case '2': return 1;
            case '3': return 2;
            case 'd': return 2000000000;
            case 'n': return 20;
            default: return Integer.MAX_VALUE;
        }
    }

    private void ask(String name, String kinds, long refusal) throws Exception {
        boolean needsValley = kinds.endsWith("v");
        String arguments = needsValley ? kinds.substring(0, kinds.length() - 1) : kinds;
        Class<?>[] types = new Class<?>[arguments.length()];
        Arrays.fill(types, int.class);
        Method method = SagMemory.class.getMethod(name, types);
        int all = 1;
        for (int i = 0; i < types.length; i++) {
            all *= 7;
        }
        for (int pick = 0; pick < all; pick++) {
            Object[] numbers = new Object[types.length];
            boolean such = valley || !needsValley;
            int left = pick;
            for (int i = 0; i < numbers.length; i++) {
                int low = low(arguments.charAt(i));
                int high = high(arguments.charAt(i));
                int[] ends = {Integer.MIN_VALUE, low - 1, low, high, high + 1, Integer.MAX_VALUE, low + (high - low) / 2};
                int number = ends[left % 7];
                numbers[i] = number;
                such &= number >= low && number <= high;
                left /= 7;
            }
            such &= !arguments.equals("cc") || !numbers[0].equals(numbers[1]);
            long got = ((Number) method.invoke(x, numbers)).longValue();
            TOLD.due(name + Arrays.toString(numbers) + " on " + Arrays.toString(size), got == refusal ? 1 : 0, such ? 0 : 1);
        }
    }
}
