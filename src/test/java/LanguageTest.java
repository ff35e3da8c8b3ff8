import java.io.IOException;
import java.lang.reflect.Constructor;
import java.lang.reflect.Field;
import java.lang.reflect.Method;
import java.lang.reflect.Modifier;
import java.nio.charset.StandardCharsets;
import java.nio.file.Files;
import java.nio.file.Path;
import java.util.ArrayList;
import java.util.List;
import java.util.Random;
import java.util.Set;
import java.util.TreeSet;
import java.util.regex.Pattern;

/** The face of the class, and what of LANGUAGE.md can be read off the source; and that calls make next to nothing. */
public final class LanguageTest {
    static final String FACE = "int prior(int,int) int quota(int,int,int) int item(int,int,int,int) int ease(int,int) int set(int,int) "
        + "int rules(int) int told(int,int) int by(int,int,int) int taken(int,int) int begin(int) int answer(int,int) int end() "
        + "int answered(int,int) long weight(int) long now(int,int) int mode() long would(int,int,int) int shadow() int next() int stops() "
        + "int says(int) int drawn(int,int,int) int chance(int,int,int,int) int tells(int,int,int) int film(int,int) int image() int back() "
        + "int count(int) int sheet(int,int,int) int put(int,int,int) int copy(int,int,int,int,int) int load(int,int,int,int) ";
    static final String CONSTANTS = "int NONE -1 int BAD -2 int STATE -3 int FULL -4 int GREAT -7 int NO_WAY -8 "
        + "long NO -9223372036854775808 ";

    static int wrong = 0;

    static void check(boolean stands, String what) {
        if (stands) return;
        wrong++;
        System.out.println("not so: " + what);
    }

    static String told(Method m) {
        StringBuilder s = new StringBuilder(m.getReturnType().getName()).append(' ').append(m.getName()).append('(');
        for (int i = 0; i < m.getParameterCount(); i++) s.append(i > 0 ? "," : "").append(m.getParameterTypes()[i].getName());
        return s.append(") ").toString();
    }

    static void face() throws IllegalAccessException {
        Class<?> c = ShadowTester.class;
        check(Modifier.isPublic(c.getModifiers()) && Modifier.isFinal(c.getModifiers()), "the class is public and final");
        Constructor<?>[] made = c.getDeclaredConstructors();
        check(made.length == 1 && made[0].getParameterCount() == 0 && Modifier.isPublic(made[0].getModifiers()), "one public constructor");
        Set<String> publicNames = new TreeSet<>();
        int methods = 0;
        for (Method m : c.getDeclaredMethods()) {
            if (Modifier.isPrivate(m.getModifiers()) || m.isSynthetic()) continue;
            methods++;
            publicNames.add(m.getName());
            check(FACE.contains(told(m)) && Modifier.isPublic(m.getModifiers()), told(m) + "is of the face");
            check(!Modifier.isStatic(m.getModifiers()), told(m) + "is of an object");
        }
        check(methods == 32, "the face has 32 methods");
        int constants = 0;
        for (Field f : c.getDeclaredFields()) {
            if (Modifier.isPrivate(f.getModifiers()) || f.isSynthetic()) continue;
            constants++;
            check(CONSTANTS.contains(f.getType().getName() + " " + f.getName() + " " + f.get(null) + " "), f.getName() + " is of the face");
            check(Modifier.isPublic(f.getModifiers()) && Modifier.isStatic(f.getModifiers()) && Modifier.isFinal(f.getModifiers()),
                f.getName() + " is a constant");
        }
        check(constants == 7, "the face has 7 constants");
        List<Class<?>> classes = new ArrayList<>(List.of(c.getDeclaredClasses()));
        check(classes.size() <= 11, "some twelve classes");
        for (Class<?> inner : classes) {
            check(Modifier.isStatic(inner.getModifiers()) || inner.isInterface(), inner.getName() + " is static");
            check(!Modifier.isPublic(inner.getModifiers()) && !Modifier.isProtected(inner.getModifiers()), inner.getName() + " is not public");
        }
        classes.add(c);
        for (Class<?> any : classes) {
            for (Method m : any.getDeclaredMethods()) {
                check(m.getParameterCount() <= 7, m + " takes at most seven");
                if (m.isSynthetic() || any == c && !Modifier.isPrivate(m.getModifiers())) continue;
                check(!publicNames.contains(m.getName()), m + " bears the name of a public one");
            }
            int own = 0;
            for (Field f : any.getDeclaredFields()) {
                if (f.isSynthetic()) continue;
                if (Modifier.isStatic(f.getModifiers())) check(Modifier.isFinal(f.getModifiers()), f + " is final");
                else own++;
            }
            check(own <= 20, any + " has some twenty fields");
        }
    }

    static void source() throws IOException {
        String text = Files.readString(Path.of("src/main/java/ShadowTester.java"), StandardCharsets.ISO_8859_1);
        for (char sign : text.toCharArray()) check(sign < 127, "signs are plain ones");
        String code = Pattern.compile("/\\*.*?\\*/|//[^\n]*", Pattern.DOTALL).matcher(text).replaceAll(" ");
        String[] words = {"throw", "throws", "try", "catch", "finally", "synchronized", "assert", "package", "import", "protected", "volatile",
            "transient", "native", "var", "this\\s*\\(", "\\w+Exact", "System\\.(?!arraycopy)\\w+", "equals", "hashCode", "toString",
            "float", "double", "Random", "Object", "Thread"};
        for (String word : words) check(!Pattern.compile("\\b" + word + "\\b").matcher(code).find(), "the source is without " + word);
        for (String sign : new String[] {"->", "::", "@", "\"", "^"}) check(!code.contains(sign), "the source is without " + sign);
        check(!Pattern.compile("\\bstatic\\s*\\{").matcher(code).find(), "the source is without static blocks");
    }

    /** Bytes that a run of 500 calls makes, the object left out. */
    static void room() {
        java.lang.management.ThreadMXBean bean = java.lang.management.ManagementFactory.getThreadMXBean();
        if (!(bean instanceof com.sun.management.ThreadMXBean)) return;
        com.sun.management.ThreadMXBean counter = (com.sun.management.ThreadMXBean) bean;
        long thread = Thread.currentThread().getId();
        long least = Long.MAX_VALUE;
        for (int again = 0; again < 5; again++) {
            ShadowTester x = new ShadowTester();
            Random random = new Random(7);
            for (int i = 0; i < 8; i++) x.item(i % 6, i % 3, i, 2);
            x.begin(1);
            int[] v = random.ints(2000, 0, 8).toArray();
            long before = counter.getThreadAllocatedBytes(thread);
            for (int k = 0; k < 500; k++) {
                switch (k % 10) {
                    case 0: x.chance(k, v[k], 10, 0); break;
                    case 1: x.drawn(k, v[k], 1); break;
                    case 2: x.would(v[k], 1, 0); break;
                    case 3: x.sheet(v[k] % 4, 1, 8); x.film(v[k] % 4, 1); break;
                    case 4: x.tells(v[k] % 4, 1, 0); break;
                    case 5: x.image(); x.back(); break;
                    case 6: x.answer(v[k], 1); break;
                    case 7: x.now(1, 0); x.next(); break;
                    case 8: x.stops(); x.says(3); break;
                    default: if (k % 100 == 99) { x.end(); x.begin(k); }
                }
            }
            least = Math.min(least, counter.getThreadAllocatedBytes(thread) - before);
        }
        check(least < 20000, "500 calls make next to nothing, but made bytes: " + least);
    }

    public static void main(String[] args) throws Exception {
        face();
        source();
        room();
        System.out.println(wrong == 0 ? "the face and the language are kept" : wrong + " rules are not kept");
        if (wrong > 0) System.exit(1);
    }
}
