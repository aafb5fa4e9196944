import java.io.IOException;
import java.lang.reflect.Constructor;
import java.lang.reflect.Field;
import java.lang.reflect.Method;
import java.lang.reflect.Modifier;
import java.nio.file.Files;
import java.nio.file.Path;
import java.util.Arrays;
import java.util.List;
import java.util.Set;
import java.util.TreeSet;
import java.util.stream.Collectors;
import java.util.stream.Stream;

/** The class's face, and the rules of ../shared/LANGUAGE.md that reflection or a text search can see. */
public final class RulesTest {
    private static final String FACE = "sill(int,int,int) ofSill(int,int) town(int,int) heir(int,int,int) ofHeir(int,int) "
        + "change(int,int,int) become(int,int) as(int,int) feed(long,int) text(int) law(int,int,int,int) days(int) "
        + "loose(int) then(int,int) first(int,int) meet(int,int) bright(int,int) place(int,int,int) cartsFor(int,int) "
        + "stop(int,int) swap(int) sunFor(int,int,int) sweepFor(int,int) whence(int,int,int) bare(int) crowd(int,int) "
        + "light(int) late(int) odds(int,int,int) seed(int) voice(int,int,int) trace(int) sheet(int,int,int) "
        + "put(int,int,int) move(int,int,int,int,int) suns(int) judge(int) image() restore() tell(int) check() "
        + "count(int) told(int)";
    private static final List<Class<?>> SHARED = List.of(int.class, long.class, boolean.class, char.class, String.class,
        int[].class, long[].class, char[].class, byte[].class);

    private static int wrong = 0;

    private static void must(boolean holds, String what) {
        if (!holds) {
            wrong++;
            System.out.println("not so: " + what);
        }
    }

    private static String sign(Method m) {
        return Arrays.stream(m.getParameterTypes()).map(Class::getName).collect(Collectors.joining(",", m.getName() + "(", ")"));
    }

    private static void face() {
        Class<?> c = DustSills.class;
        must(Modifier.isPublic(c.getModifiers()) && Modifier.isFinal(c.getModifiers()), "the class is public and final");
        Set<String> found = new TreeSet<>();
        for (Method m : c.getDeclaredMethods()) {
            if (Modifier.isPublic(m.getModifiers())) {
                found.add(sign(m));
                must(m.getReturnType() == int.class && !Modifier.isStatic(m.getModifiers()), sign(m) + " answers an int");
            } else {
                must(Modifier.isPrivate(m.getModifiers()), sign(m) + " is private");
            }
        }
        Set<String> wanted = new TreeSet<>(List.of(FACE.split(" ")));
        must(found.equals(wanted), "the face is " + wanted + ", not " + found);
        for (Field f : c.getDeclaredFields()) {
            must(Modifier.isPrivate(f.getModifiers()), f + " is private");
        }
        Constructor<?>[] made = c.getDeclaredConstructors();
        must(made.length == 1 && Modifier.isPublic(made[0].getModifiers()) && made[0].getParameterCount() == 0,
            "there is one constructor, public, of nothing");
    }

    private static void classes() {
        Class<?>[] inside = DustSills.class.getDeclaredClasses();
        must(inside.length < 12, "some twelve classes");
        Set<String> names = Stream.of(FACE.split(" ")).map(s -> s.substring(0, s.indexOf('('))).collect(Collectors.toSet());
        for (Class<?> c : inside) {
            must(Modifier.isStatic(c.getModifiers()), c + " is static");
            must(!Modifier.isPublic(c.getModifiers()) && !Modifier.isProtected(c.getModifiers()), c + " is no part of the face");
            for (Method m : c.getDeclaredMethods()) {
                must(!names.contains(m.getName()), m + " bears a name of the face");
            }
        }
        Stream.concat(Stream.of(DustSills.class), Stream.of(inside)).forEach(RulesTest::members);
    }

    private static void members(Class<?> c) {
        int fields = 0;
        for (Field f : c.getDeclaredFields()) {
            if (Modifier.isStatic(f.getModifiers())) {
                must(Modifier.isFinal(f.getModifiers()) && SHARED.contains(f.getType()), f + " is a constant");
            } else {
                fields++;
            }
        }
        must(fields <= 20, c + " has some twenty fields");
        for (Method m : c.getDeclaredMethods()) {
            must(m.getParameterCount() <= 7, m + " takes seven parameters at most");
            must(!List.of("equals", "hashCode", "toString").contains(m.getName()), m + " is not allowed");
        }
    }

    private static void words(String source) {
        String bare = source.replaceAll("(?s)/\\*.*?\\*/", " ").replaceAll("//[^\n]*", " ").replaceAll("\"[^\"\n]*\"", "\"\"");
        for (String word : List.of("throw", "throws", "try", "catch", "finally", "synchronized", "assert", "volatile", "transient",
            "native", "package", "protected", "Object", "Random", "System.out", "Thread", "HashMap", "Map", "Set")) {
            must(!bare.matches("(?s).*\\b" + word.replace(".", "\\.") + "\\b.*"), "no " + word);
        }
        for (String sign : List.of("->", "::", "@", "Exact", "?>", "static {")) {
            must(!bare.contains(sign), "no " + sign);
        }
        must(bare.lines().filter(l -> l.startsWith("import")).allMatch(l -> l.equals("import java.util.Arrays;")), "imports");
        must(source.chars().allMatch(c -> c == '\n' || c >= 32 && c < 127), "plain signs alone");
        must(longestMethod(source) <= 60, "methods stay short");
    }

    private static int longestMethod(String source) {
        int longest = 0;
        int began = 0;
        String[] lines = source.split("\n");
        for (int i = 0; i < lines.length; i++) {
            if (lines[i].matches("( {4}| {8})[a-zA-Z].*\\) \\{")) {
                began = i;
            }
            if (lines[i].matches("( {4}| {8})\\}") && lines[began].indexOf(lines[began].trim()) == lines[i].indexOf('}')) {
                longest = Math.max(longest, i - began + 1);
                began = i;
            }
        }
        return longest;
    }

    public static void main(String[] args) throws IOException {
        face();
        classes();
        words(Files.readString(Path.of(System.getProperty("dust.source", "src/main/java/DustSills.java"))));
        System.out.println(wrong == 0 ? "the rules are kept" : wrong + " rules are not kept");
        if (wrong != 0) {
            System.exit(1);
        }
    }
}
