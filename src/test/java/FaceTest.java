import java.io.IOException;
import java.lang.reflect.Constructor;
import java.lang.reflect.Field;
import java.lang.reflect.Method;
import java.lang.reflect.Modifier;
import java.nio.file.Files;
import java.nio.file.Path;
import java.util.ArrayList;
import java.util.HashSet;
import java.util.List;
import java.util.Set;
import java.util.regex.Matcher;
import java.util.regex.Pattern;

/** The public face, and those rules of LANGUAGE.md that can be seen by reading the class. */
public final class FaceTest {
    private static final Check CHECK = new Check();
    private static final Path SOURCE = Path.of("src/main/java/LoafWed.java");
    private static final String[] FACE = {
        "int valley()", "int damp(int)", "int dry(int)", "int pair(int,int)", "int kin(int)", "int type(int)",
        "int clear()", "int read()", "int year(int)", "int give(int,int)", "int undo()", "int of(int,int)",
        "int left(int,int)", "int till(int)", "int together(int)", "int gifts(int,int,int,int)", "int drought(int)",
        "int counted(int,int,int)", "int forget()", "int is(int)", "int next(int)", "int swapped(int)", "int back()",
        "int crusts(int,int)", "int mice(int,int,int)", "int years(int,int,int)", "long part(int)", "int image(int)",
        "int from(int)", "int status(int)", "int count(int)", "long digest()",
    };
    private static final String[] RULED_OUT = {
        "throw", "throws", "try", "catch", "finally", "synchronized", "assert", "import", "package", "abstract",
        "System.out", "Thread", "Object", "hashCode", "toString", "Random", "volatile", "transient", "native",
    };
    private static final int MOST_LINES = 60;

    public static void main(String[] args) throws IOException {
        constants();
        face();
        classesInside();
        source();
        extremes();
        CHECK.end("FaceTest");
    }

    private static void constants() {
        CHECK.due("NONE", LoafWed.NONE, -1);
        CHECK.due("BAD", LoafWed.BAD, -2);
        CHECK.due("NO", LoafWed.NO, -3);
        CHECK.due("FULL", LoafWed.FULL, -4);
    }

    private static String told(Method m) {
        StringBuilder b = new StringBuilder(m.getReturnType().getSimpleName()).append(' ').append(m.getName()).append('(');
        for (Class<?> type : m.getParameterTypes()) {
            b.append(b.charAt(b.length() - 1) == '(' ? "" : ",").append(type.getSimpleName());
        }
        return b.append(')').toString();
    }

    private static void face() {
        Set<String> due = new HashSet<>(List.of(FACE));
        Set<String> names = new HashSet<>();
        for (Method m : LoafWed.class.getDeclaredMethods()) {
            if (Modifier.isPublic(m.getModifiers())) {
                names.add(m.getName());
                CHECK.holds("in the document: " + told(m), due.remove(told(m)));
            } else {
                CHECK.holds("private: " + told(m), Modifier.isPrivate(m.getModifiers()));
            }
        }
        CHECK.holds("all methods stand, but " + due, due.isEmpty());
        for (Class<?> c : withThoseInside()) {
            for (Method m : c.getDeclaredMethods()) {
                CHECK.holds("no public one's name: " + c.getSimpleName() + " " + told(m),
                    Modifier.isPublic(m.getModifiers()) || !names.contains(m.getName()));
                CHECK.holds("seven parameters: " + told(m), m.getParameterCount() <= 7);
            }
        }
        Constructor<?>[] made = LoafWed.class.getDeclaredConstructors();
        CHECK.holds("one public constructor", made.length == 1 && Modifier.isPublic(made[0].getModifiers()) && made[0].getParameterCount() == 0);
        CHECK.holds("public and final", LoafWed.class.getModifiers() == (Modifier.PUBLIC | Modifier.FINAL));
    }

    private static List<Class<?>> withThoseInside() {
        List<Class<?>> all = new ArrayList<>(List.of(LoafWed.class.getDeclaredClasses()));
        all.add(LoafWed.class);
        return all;
    }

    private static void classesInside() {
        CHECK.holds("some twelve classes", withThoseInside().size() <= 12);
        Set<String> open = new HashSet<>(List.of("NONE", "BAD", "NO", "FULL"));
        for (Class<?> c : withThoseInside()) {
            CHECK.holds("static: " + c, c == LoafWed.class || Modifier.isStatic(c.getModifiers()));
            int fields = 0;
            for (Field f : c.getDeclaredFields()) {
                if (Modifier.isStatic(f.getModifiers())) {
                    CHECK.holds("a constant: " + f, Modifier.isFinal(f.getModifiers()) && f.getType() == int.class);
                } else {
                    fields++;
                }
                if (c == LoafWed.class && !open.remove(f.getName())) {
                    CHECK.holds("private: " + f, Modifier.isPrivate(f.getModifiers()));
                }
            }
            CHECK.holds("some twenty fields: " + c, fields <= 20);
        }
    }

    private static void source() throws IOException {
        String text = Files.readString(SOURCE);
        CHECK.holds("signs 1 to 127 alone", text.chars().allMatch(c -> c >= 1 && c <= 127));
        String code = text.replaceAll("(?s)/\\*.*?\\*/", "").replaceAll("//[^\n]*", "");
        for (String word : RULED_OUT) {
            CHECK.holds("ruled out: " + word, !Pattern.compile("\\b" + Pattern.quote(word) + "\\b").matcher(code).find());
        }
        CHECK.holds("no lambda, no method reference", !code.contains("->") && !code.contains("::"));
        CHECK.holds("no static block", !Pattern.compile("static\\s*\\{").matcher(code).find());
        CHECK.holds("none whose name ends in Exact", !code.contains("Exact"));
        CHECK.holds("texts are not joined by +", !Pattern.compile("\"\\s*\\+|\\+\\s*\"").matcher(code).find());
        Matcher m = Pattern.compile("(?m)^( {4}| {8})([\\w\\[\\]]+ )+\\w+\\([^;]*?\\) \\{$(?s:.*?)^\\1\\}$").matcher(code);
        int methods = 0;
        while (m.find()) {
            methods++;
            long lines = m.group().lines().count();
            CHECK.holds("some sixty lines: " + m.group().lines().findFirst().orElse("").trim(), lines <= MOST_LINES);
        }
        CHECK.holds("methods were found", methods > FACE.length);
    }

    /** No call throws, whatever it is asked, in an empty valley and in a full one. */
    private static void extremes() {
        int[] odd = {Integer.MIN_VALUE, -61, -1, 0, 1, 5, 60, 4095, Integer.MAX_VALUE};
        LoafWed x = new LoafWed();
        for (int round = 0; round < 3; round++) {
            for (int a : odd) {
                askAll(x, a, odd);
            }
            Check.read(x, "valley;pair 0 60;pair 1 60;pair 2 60;pair 3 60;pair 4 60;pair 5 60;kin 20;kin 20;kin 20;kin 20;kin 20;kin 20;kin 20;kin 20;");
        }
        CHECK.holds("it lives on", x.count(0) == 6);
    }

    private static void askAll(LoafWed x, int a, int[] odd) {
        x.damp(a);
        x.dry(a);
        x.kin(a);
        x.type(a);
        x.year(a);
        x.till(a);
        x.together(a);
        x.drought(a);
        x.is(a);
        x.next(a);
        x.swapped(a);
        x.part(a);
        x.image(a);
        x.from(a);
        x.status(a);
        x.count(a);
        x.read();
        x.back();
        x.undo();
        x.digest();
        for (int b : odd) {
            x.pair(a, b);
            x.give(a, b);
            x.of(a, b);
            x.left(a, b);
            x.crusts(a, b);
            for (int c : odd) {
                x.counted(a, b, c);
                x.mice(a, b, c);
                x.years(a, b, c);
                x.gifts(a, b, c, a);
                x.gifts(a, b, c, b);
            }
        }
    }
}
