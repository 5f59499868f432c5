import java.io.IOException;
import java.lang.reflect.Field;
import java.lang.reflect.Modifier;
import java.util.ArrayList;
import java.util.HashMap;
import java.util.List;
import java.util.Map;
import java.util.Set;

/** Rules of LANGUAGE.md that can be seen in the compiled classes: what they call, make and throw, and how deep. */
public final class RulesTest {
    private static final int MOST_DEEP = 8;
    private static final int MOST_FIELDS = 20;
    private static final Set<String> LIBRARY = Set.of("java/lang/Object.<init>()V", "java/lang/Integer.bitCount(I)I",
            "java/lang/Long.bitCount(J)I", "java/util/Arrays.fill([II)V",
            "java/lang/System.arraycopy(Ljava/lang/Object;ILjava/lang/Object;II)V");
    private static final Set<String> EXCEPTIONS = Set.of("java/lang/IllegalStateException",
            "java/lang/IllegalArgumentException", "java/lang/IndexOutOfBoundsException",
            "java/lang/ArithmeticException", "java/lang/UnsupportedOperationException",
            "java/util/NoSuchElementException");
    private static final Set<String> CONSTANTS = Set.of("int", "long", "boolean", "char", "java.lang.String");

    private static final List<Class<?>> TYPES = new ArrayList<>();
    private static final Map<String, ClassFile.Method> METHODS = new HashMap<>();
    private static final Map<String, Integer> DEPTHS = new HashMap<>();

    public static void main(String[] args) throws IOException {
        TYPES.add(VisitBooking.class);
        TYPES.addAll(List.of(VisitBooking.class.getDeclaredClasses()));
        for (Class<?> type : TYPES) {
            for (ClassFile.Method method : new ClassFile(type).methods) {
                METHODS.put(method.name, method);
            }
            fields(type);
        }
        Check.isTrue("methods are found", METHODS.size() > 60);
        for (ClassFile.Method method : METHODS.values()) {
            instructions(method);
        }
        depths();
        Check.end();
    }

    /** Rules 3, 5 and 11: what fields hold, static ones only constants, and some twenty of the others. */
    private static void fields(Class<?> type) {
        int fields = 0;
        for (Field field : type.getDeclaredFields()) {
            String what = type.getName() + "." + field.getName();
            String holds = field.getType().getName();
            if (Modifier.isStatic(field.getModifiers())) {
                Check.isTrue("rule 5: " + what + " is final", Modifier.isFinal(field.getModifiers()));
                Check.isTrue("rule 5: " + what + " is a constant, no " + holds, CONSTANTS.contains(holds));
                continue;
            }
            fields++;
            Class<?> of = field.getType();
            boolean isOwn = TYPES.contains(of) || of.isArray() && TYPES.contains(of.getComponentType());
            boolean isPlain = Set.of("int", "long", "boolean", "char", "[I", "[C", "[[I").contains(holds);
            Check.isTrue("rule 3: " + what + " may be a " + holds, isOwn || isPlain);
        }
        Check.isTrue("rule 11: " + type.getName() + " has " + fields + " fields", fields <= MOST_FIELDS);
    }

    private static void instructions(ClassFile.Method method) {
        Check.isTrue("rules 2 and 6: no lambda, joined text or lock in " + method.name, !method.isOdd);
        Check.isTrue("rule 6: no catch in " + method.name, !method.isCatching);
        Check.isTrue("rule 6: no throw in " + method.name, !method.isThrowing || !method.isConstructor());
        Check.isTrue("rule 5: no static block, " + method.name, !method.name.contains("<clinit>"));
        for (String call : method.calls) {
            boolean isOwn = METHODS.containsKey(call);
            boolean isException = EXCEPTIONS.contains(call.split("\\.")[0])
                    && call.endsWith(".<init>(Ljava/lang/String;)V");
            Check.isTrue("rule 4: " + method.name + " may call " + call, isOwn || isException || LIBRARY.contains(call));
        }
        for (String made : method.makes) {
            Check.isTrue("rule 12: " + method.name + " makes " + made + " in a constructor",
                    method.isConstructor() || EXCEPTIONS.contains(made));
        }
    }

    /** Rules 8 and 11: no method calls itself, directly or not, and no call goes deeper than eight. */
    private static void depths() {
        for (String name : METHODS.keySet()) {
            int depth = depth(name, new ArrayList<>());
            Check.isTrue("rule 11: " + name + " goes " + depth + " deep", depth <= MOST_DEEP);
        }
        boolean isDeep = DEPTHS.containsValue(MOST_DEEP) || DEPTHS.containsValue(MOST_DEEP - 1);
        Check.isTrue("calls are followed", isDeep);
    }

    private static int depth(String name, List<String> open) {
        if (!METHODS.containsKey(name)) {
            return 0;
        }
        if (open.contains(name)) {
            Check.isTrue("rule 8: recursion of " + name, false);
            return 0;
        }
        Integer known = DEPTHS.get(name);
        if (known != null) {
            return known;
        }
        open.add(name);
        int deepest = 0;
        for (String call : METHODS.get(name).calls) {
            deepest = Math.max(deepest, depth(call, open));
        }
        open.remove(name);
        DEPTHS.put(name, deepest + 1);
        return deepest + 1;
    }
}
