import java.io.IOException;
import java.lang.reflect.Array;
import java.lang.reflect.Field;
import java.lang.reflect.Modifier;
import java.util.ArrayList;
import java.util.HashMap;
import java.util.HashSet;
import java.util.IdentityHashMap;
import java.util.List;
import java.util.Map;
import java.util.Set;

/** The one room of all calls: what a new object takes of it, which calls make something, and rules 4 and 11 as compiled. */
public final class RoomTest {
    private static final Check CHECK = new Check();
    /** The room's 600,000 objects and 7.3 million elements by ten thousand, far more objects than a run makes. */
    private static final int MOST_OBJECTS = 60;
    private static final int MOST_ELEMENTS = 730;
    private static final int MOST_DEEP = 8;
    private static final Set<String> LIBRARY = Set.of(
        "java/lang/Object.<init>()V", "java/lang/Math.max(II)I", "java/lang/Math.min(II)I",
        "java/lang/Integer.bitCount(I)I", "java/lang/String.charAt(I)C", "java/lang/String.length()I",
        "java/lang/System.arraycopy(Ljava/lang/Object;ILjava/lang/Object;II)V");
    /** The two images are made when they are first kept; all else is made with the object. */
    private static final String MAKES_IMAGES = "LoafWed.image(I)I";

    private static final Map<String, List<String>> CALLS = new HashMap<>();
    private static final Map<String, Integer> MAKES = new HashMap<>();

    public static void main(String[] args) throws IOException, IllegalAccessException {
        readClasses();
        library();
        makers();
        depth();
        size();
        CHECK.end("RoomTest");
    }

    private static void readClasses() throws IOException {
        List<Class<?>> all = new ArrayList<>(List.of(LoafWed.class.getDeclaredClasses()));
        all.add(LoafWed.class);
        for (Class<?> c : all) {
            ClassFile file = new ClassFile(c.getName());
            CALLS.putAll(file.calls);
            MAKES.putAll(file.makes);
        }
        CHECK.holds("methods were read", CALLS.containsKey(MAKES_IMAGES) && CALLS.containsKey("LoafWed.digest()J"));
    }

    private static void library() {
        for (Map.Entry<String, List<String>> method : CALLS.entrySet()) {
            for (String called : method.getValue()) {
                CHECK.holds("rule 4: " + method.getKey() + " calls " + called, CALLS.containsKey(called) || LIBRARY.contains(called));
            }
        }
    }

    private static void makers() {
        for (Map.Entry<String, Integer> method : MAKES.entrySet()) {
            boolean may = method.getKey().contains(".<init>(") || method.getKey().equals(MAKES_IMAGES);
            CHECK.holds("makes nothing: " + method.getKey(), may || method.getValue() == 0);
        }
    }

    private static void depth() {
        for (String method : CALLS.keySet()) {
            int deep = deepest(method, new HashSet<>());
            CHECK.holds("rule 11: " + method + " goes " + deep + " deep", deep <= MOST_DEEP);
        }
    }

    /** The method itself is one; a call of one that stands open already is recursion, and not counted. */
    private static int deepest(String method, Set<String> open) {
        if (!open.add(method)) {
            return 0;
        }
        int most = 0;
        for (String called : CALLS.getOrDefault(method, List.of())) {
            most = Math.max(most, deepest(called, open));
        }
        open.remove(method);
        return 1 + most;
    }

    private static void size() throws IllegalAccessException {
        LoafWed x = new LoafWed();
        int[] plain = sizeOf(x);
        x.image(0);
        x.image(1);
        int[] both = sizeOf(x);
        CHECK.holds("objects of a new one: " + plain[0], plain[0] <= MOST_OBJECTS);
        CHECK.holds("elements of a new one: " + plain[1], plain[1] <= MOST_ELEMENTS);
        CHECK.holds("objects with both images: " + both[0], both[0] <= MOST_OBJECTS);
        System.out.println("RoomTest: a new object is " + plain[0] + " objects with " + plain[1] + " fields and elements, with both images "
            + both[0] + " with " + both[1]);
    }

    /** How many objects and arrays hang on one object, and how many fields and elements they have. */
    private static int[] sizeOf(Object root) throws IllegalAccessException {
        IdentityHashMap<Object, Boolean> seen = new IdentityHashMap<>();
        List<Object> open = new ArrayList<>(List.of(root));
        int elements = 0;
        while (!open.isEmpty()) {
            Object o = open.remove(open.size() - 1);
            if (o == null || seen.put(o, true) != null) {
                continue;
            }
            if (o.getClass().isArray()) {
                elements += Array.getLength(o);
                for (int i = 0; o instanceof Object[] && i < Array.getLength(o); i++) {
                    open.add(Array.get(o, i));
                }
                continue;
            }
            for (Field f : o.getClass().getDeclaredFields()) {
                if (!Modifier.isStatic(f.getModifiers())) {
                    elements++;
                    f.setAccessible(true);
                    if (!f.getType().isPrimitive()) {
                        open.add(f.get(o));
                    }
                }
            }
        }
        return new int[] {seen.size(), elements};
    }
}
