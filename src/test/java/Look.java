import java.lang.reflect.InvocationTargetException;
import java.lang.reflect.Method;
import java.lang.reflect.Modifier;
import java.util.Arrays;
import java.util.Comparator;
import java.util.LinkedHashMap;
import java.util.Map;
import java.util.Set;
import java.util.function.Supplier;
import java.util.function.ToLongFunction;

/** A whole look at an object as it is made: all that it answers, to see that a call that is refused changes nothing. */
final class Look {
    // fault() is left out: it tells of the latest valley(), refused or not.
    private static final Set<String> NO_QUESTIONS = Set.of("feed", "end", "valley", "send", "freeze", "undo", "anew",
        "rate", "image", "back", "row", "write", "paste", "fault");
    private static final Method[] QUESTIONS = questions();
    // Its one CART makes the SAG that a book tells: light() reads a number of a row so.
    private static final String READER = "valley law 0 frost 1 odds 0;bridge holds 300 toll 0;cart 1 by 0;";

    private final Told told;
    private final Supplier<SagMemory> made;
    private final Map<String, Long> without;

    Look(Told told, Supplier<SagMemory> made) {
        this.told = told;
        this.made = made;
        without = whole(made, x -> 0);
    }

    private static Method[] questions() {
        return Arrays.stream(SagMemory.class.getDeclaredMethods())
            .filter(method -> Modifier.isPublic(method.getModifiers()) && !NO_QUESTIONS.contains(method.getName()))
            .sorted(Comparator.comparing(Method::getName))
            .toArray(Method[]::new);
    }

    /**
     * The call answers as wanted, and behind it all is as without it: what is there now, behind each act
     * taken back, by each IMAGE, what the TAPE tells, and the rows of SLOTS.
     */
    void refused(String name, ToLongFunction<SagMemory> call, long wanted) {
        told.due(name, call.applyAsLong(made.get()), wanted);
        Map<String, Long> with = whole(made, call);
        String other = "nothing";
        for (Map.Entry<String, Long> entry : without.entrySet()) {
            if (!entry.getValue().equals(with.get(entry.getKey()))) {
                other = entry.getKey();
                break;
            }
        }
        told.due(name + " changes " + other, with.equals(without) ? 0 : 1, 0);
    }

    private static Map<String, Long> whole(Supplier<SagMemory> made, ToLongFunction<SagMemory> call) {
        Map<String, Long> seen = new LinkedHashMap<>();
        SagMemory x = made.get();
        call.applyAsLong(x);
        all(x, "", seen);
        for (int left = x.undo(); left >= 0; left = x.undo()) {
            all(x, "with " + left + " acts ", seen);
        }
        for (int k = 0; k < 3; k++) {
            seen.put("back(" + k + ")", (long) x.back(k));
            all(x, "by IMAGE " + k + " ", seen);
        }
        seen.put("valley()", (long) x.valley());
        seen.put("fault(0)", (long) x.fault(0));
        seen.put("fault(1)", (long) x.fault(1));
        all(x, "by the TAPE ", seen);
        // Reading takes a SLOT of its own, so the last one is read in another object.
        for (int slot = 0; slot < 3; slot++) {
            row(x, slot, 3, seen);
        }
        SagMemory y = made.get();
        call.applyAsLong(y);
        row(y, 3, 0, seen);
        return seen;
    }

    /** Every question with every small argument, some below and above all that there can be. */
    private static void all(SagMemory x, String when, Map<String, Long> seen) {
        for (Method method : QUESTIONS) {
            int n = method.getParameterCount();
            Object[] arguments = new Object[n];
            int[] low = {-1, -1, -1};
            int[] high = {n == 1 ? 11 : 4, 7, 4};
            int[] at = low.clone();
            for (boolean more = true; more;) {
                for (int i = 0; i < n; i++) {
                    arguments[i] = at[i];
                }
                seen.put(when + method.getName() + Arrays.toString(arguments), ask(x, method, arguments));
                more = false;
                for (int i = n - 1; i >= 0 && !more; i--) {
                    at[i]++;
                    more = at[i] <= high[i];
                    at[i] = more ? at[i] : low[i];
                }
            }
        }
    }

    private static long ask(SagMemory x, Method method, Object[] arguments) {
        try {
            return ((Number) method.invoke(x, arguments)).longValue();
        } catch (IllegalAccessException | InvocationTargetException e) {
            throw new IllegalStateException(method.getName() + Arrays.toString(arguments), e);
        }
    }

    private static void row(SagMemory x, int slot, int scratch, Map<String, Long> seen) {
        Told.tell(x, READER);
        int length = length(x, slot);
        seen.put("length of " + slot, (long) length);
        for (int width = 0; width < 4; width++) {
            x.row(scratch, width, 3);
            seen.put("width of " + slot + " against " + width, (long) x.paste(slot, 0, scratch, 0, 0));
            for (int i = 0; i < length; i++) {
                seen.put("number " + i + " of " + slot + " by " + width, number(x, slot, i, scratch));
            }
        }
    }

    /** How many numbers a SLOT's row has: so many can be put onto themselves. NONE: it has nothing. */
    static int length(SagMemory x, int slot) {
        int length = SagMemory.NONE;
        while (x.paste(slot, 0, slot, 0, length + 1) == 0) {
            length++;
        }
        return length;
    }

    /** In a VALLEY as READER: the number if it is 1 .. 99, 0 for 0, 100 up to 999, -2 for others, -8 by another WIDTH. */
    private static long number(SagMemory x, int slot, int i, int scratch) {
        x.write(scratch, 0, 0);
        x.write(scratch, 1, 0);
        int no = x.paste(slot, i, scratch, 2, 1);
        if (no < 0) {
            return no;
        }
        int light = x.light(scratch, 0);
        if (light != SagMemory.NONE) {
            return light;
        }
        x.send(0, SagMemory.NONE);
        int laws = x.laws(scratch);
        x.undo();
        return laws == 15 ? 0 : 100;
    }

    /** The numbers of a row of that WIDTH as number() tells them; it makes SLOT 3 and the VALLEY others. */
    static long[] numbers(SagMemory x, int slot, int width) {
        Told.tell(x, READER);
        x.row(3, width, 3);
        long[] found = new long[Math.max(0, length(x, slot))];
        for (int i = 0; i < found.length; i++) {
            found[i] = number(x, slot, i, 3);
        }
        return found;
    }
}
