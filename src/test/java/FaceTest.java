import java.lang.reflect.Constructor;
import java.lang.reflect.Field;
import java.lang.reflect.Method;
import java.lang.reflect.Modifier;
import java.util.ArrayList;
import java.util.Arrays;
import java.util.HashSet;
import java.util.List;
import java.util.Set;
import java.util.TreeSet;

/** The public face is the document's and no more (rule 1 of LANGUAGE.md; LanguageTest has the others). */
public final class FaceTest {
    private static final String NONE_OF_THEM = "()";
    // Methods of the document by how many ints they take; the others stand in OTHERS.
    private static final String[] BY_INTS = {
        "valley waits loudest tolls fails least orders across routes safe worst forget law undo anew",
        "end fault cold goes comes over all deepest gives creak pays wipes breaks spare kept broken order"
            + " route spared liars laws by count image back",
        "bridge cart ward deep sag last free most sets surely never fewest ask leaves loads light heavy share"
            + " rests rest chance send freeze drawn rate",
        "load luck row",
        "",
        "feed paste",
    };
    private static final String[] OTHERS = {"mean(int,int)long", "write(int,int,long)int"};

    private static final Told TOLD = new Told("FaceTest");

    public static void main(String[] args) {
        methods();
        fields();
        constructors();
        TOLD.close();
    }

    private static void methods() {
        Set<String> wanted = new TreeSet<>(Arrays.asList(OTHERS));
        for (int n = 0; n < BY_INTS.length; n++) {
            for (String name : BY_INTS[n].split(" ")) {
                if (!name.isEmpty()) {
                    wanted.add(name + ints(n) + "int");
                }
            }
        }
        TOLD.due("methods of the document", wanted.size(), 72);
        Set<String> names = new HashSet<>();
        for (Method method : SagMemory.class.getDeclaredMethods()) {
            if (Modifier.isPublic(method.getModifiers())) {
                TOLD.due("public " + shape(method), wanted.remove(shape(method)) ? 1 : 0, 1);
                TOLD.due("not static: " + method, Modifier.isStatic(method.getModifiers()) ? 1 : 0, 0);
                names.add(method.getName());
            } else {
                TOLD.due("private " + method, Modifier.isPrivate(method.getModifiers()) ? 1 : 0, 1);
            }
        }
        TOLD.due("missing " + wanted, wanted.size(), 0);
        for (Class<?> inside : SagMemory.class.getDeclaredClasses()) {
            for (Method method : inside.getDeclaredMethods()) {
                TOLD.due("a public name inside: " + method, names.contains(method.getName()) ? 1 : 0, 0);
            }
        }
        for (Method method : SagMemory.class.getDeclaredMethods()) {
            boolean hides = Modifier.isPrivate(method.getModifiers()) && names.contains(method.getName());
            TOLD.due("a public name: " + method, hides ? 1 : 0, 0);
        }
    }

    private static String ints(int n) {
        if (n == 0) {
            return NONE_OF_THEM;
        }
        StringBuilder text = new StringBuilder("(int");
        for (int i = 1; i < n; i++) {
            text.append(",int");
        }
        return text.append(')').toString();
    }

    private static String shape(Method method) {
        List<String> types = new ArrayList<>();
        for (Class<?> type : method.getParameterTypes()) {
            types.add(type.getName());
        }
        return method.getName() + "(" + String.join(",", types) + ")" + method.getReturnType().getName();
    }

    private static void fields() {
        TOLD.due("NONE", SagMemory.NONE, -1);
        for (Field field : SagMemory.class.getDeclaredFields()) {
            int bits = field.getModifiers();
            if (field.getName().equals("NONE")) {
                TOLD.due("NONE is public", Modifier.isPublic(bits) && Modifier.isStatic(bits) ? 1 : 0, 1);
            } else {
                TOLD.due("private " + field, Modifier.isPrivate(bits) ? 1 : 0, 1);
            }
        }
        checkStatics(SagMemory.class);
        for (Class<?> inside : SagMemory.class.getDeclaredClasses()) {
            checkStatics(inside);
        }
    }

    private static void checkStatics(Class<?> type) {
        int own = 0;
        for (Field field : type.getDeclaredFields()) {
            if (Modifier.isStatic(field.getModifiers())) {
                TOLD.due("final " + field, Modifier.isFinal(field.getModifiers()) ? 1 : 0, 1);
            } else {
                own++;
            }
        }
        TOLD.due("fields of " + type + ": " + own, own <= 20 ? 1 : 0, 1);
    }

    private static void constructors() {
        int bits = SagMemory.class.getModifiers();
        TOLD.due("public final class", Modifier.isPublic(bits) && Modifier.isFinal(bits) ? 1 : 0, 1);
        Constructor<?>[] all = SagMemory.class.getDeclaredConstructors();
        TOLD.due("constructors", all.length, 1);
        TOLD.due("its parameters", all[0].getParameterCount(), 0);
        TOLD.due("it is public", Modifier.isPublic(all[0].getModifiers()) ? 1 : 0, 1);
        Class<?>[] inside = SagMemory.class.getDeclaredClasses();
        for (Class<?> type : inside) {
            int kind = type.getModifiers();
            boolean open = Modifier.isPublic(kind) || Modifier.isProtected(kind);
            TOLD.due("hidden and static: " + type, !open && Modifier.isStatic(kind) ? 1 : 0, 1);
        }
    }
}
