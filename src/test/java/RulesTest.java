import java.io.IOException;
import java.lang.reflect.Array;
import java.lang.reflect.Constructor;
import java.lang.reflect.Field;
import java.lang.reflect.Method;
import java.lang.reflect.Modifier;
import java.nio.file.Files;
import java.nio.file.Path;
import java.util.ArrayDeque;
import java.util.ArrayList;
import java.util.Arrays;
import java.util.Deque;
import java.util.IdentityHashMap;
import java.util.List;
import java.util.Set;
import java.util.TreeSet;
import java.util.regex.Matcher;
import java.util.regex.Pattern;
import java.util.stream.Collectors;
import java.util.stream.Stream;

/** The class's face, and the rules of ../shared/LANGUAGE.md that reflection or a text search can see. */
public final class RulesTest {
    private static final String FACE = "sill(int,int,int) ofSill(int,int) town(int,int) heir(int,int,int) ofHeir(int,int) "
        + "change(int,int,int) become(int,int) as(int,int) feed(long,int) text(int) law(int,int,int,int) days(int) "
        + "loose(int) then(int,int) first(int,int) meet(int,int) bright(int,int) place(int,int,int) cartsFor(int,int) "
        + "stop(int,int) swap(int) sunFor(int,int,int) sweepFor(int,int) whence(int,int,int) bare(int) crowd(int,int) "
        + "light(int) late(int) odds(int,int,int) seed(int) voice(int,int,int) trace(int) sheet(int,int,int) "
        + "put(int,int,int) move(int,int,int,int,int) suns(int) judge(int) image() restore() tell(int) check() "
        + "count(int) told(int)";
    private static final List<Class<?>> SHARED = List.of(int.class, long.class, boolean.class, char.class, String.class,
        int[].class, long[].class, char[].class, byte[].class);

    private static int wrong = 0;

    private static void must(boolean holds, String what) {
        if (!holds) {
            wrong++;
            System.out.println("not so: " + what);
        }
    }

    private static String sign(Method m) {
        return Arrays.stream(m.getParameterTypes()).map(Class::getName).collect(Collectors.joining(",", m.getName() + "(", ")"));
    }

    private static void face() {
        Class<?> c = DustSills.class;
        must(Modifier.isPublic(c.getModifiers()) && Modifier.isFinal(c.getModifiers()), "the class is public and final");
        Set<String> found = new TreeSet<>();
        for (Method m : c.getDeclaredMethods()) {
            if (Modifier.isPublic(m.getModifiers())) {
                found.add(sign(m));
                must(m.getReturnType() == int.class && !Modifier.isStatic(m.getModifiers()), sign(m) + " answers an int");
            } else {
                must(Modifier.isPrivate(m.getModifiers()), sign(m) + " is private");
                must(!(" " + FACE).contains(" " + m.getName() + "("), sign(m) + " bears a name of the face");
            }
        }
        Set<String> wanted = new TreeSet<>(List.of(FACE.split(" ")));
        must(found.equals(wanted), "the face is " + wanted + ", not " + found);
        for (Field f : c.getDeclaredFields()) {
            must(Modifier.isPrivate(f.getModifiers()), f + " is private");
        }
        Constructor<?>[] made = c.getDeclaredConstructors();
        must(made.length == 1 && Modifier.isPublic(made[0].getModifiers()) && made[0].getParameterCount() == 0,
            "there is one constructor, public, of nothing");
    }

    private static void classes() {
        Class<?>[] inside = DustSills.class.getDeclaredClasses();
        must(inside.length < 12, "some twelve classes");
        Set<String> names = Stream.of(FACE.split(" ")).map(s -> s.substring(0, s.indexOf('('))).collect(Collectors.toSet());
        for (Class<?> c : inside) {
            must(Modifier.isStatic(c.getModifiers()), c + " is static");
            must(!Modifier.isPublic(c.getModifiers()) && !Modifier.isProtected(c.getModifiers()), c + " is no part of the face");
            for (Method m : c.getDeclaredMethods()) {
                must(!names.contains(m.getName()), m + " bears a name of the face");
            }
        }
        Stream.concat(Stream.of(DustSills.class), Stream.of(inside)).forEach(RulesTest::members);
    }

    private static void members(Class<?> c) {
        int fields = 0;
        for (Field f : c.getDeclaredFields()) {
            if (Modifier.isStatic(f.getModifiers())) {
                must(Modifier.isFinal(f.getModifiers()) && SHARED.contains(f.getType()), f + " is a constant");
            } else {
                fields++;
            }
        }
        must(fields <= 20, c + " has some twenty fields");
        for (Method m : c.getDeclaredMethods()) {
            must(m.getParameterCount() <= 7, m + " takes seven parameters at most");
            must(!List.of("equals", "hashCode", "toString").contains(m.getName()), m + " is not allowed");
        }
    }

    private static void words(String source) {
        String bare = source.replaceAll("(?s)/\\*.*?\\*/", " ").replaceAll("//[^\n]*", " ").replaceAll("\"[^\"\n]*\"", "\"\"");
        for (String word : List.of("throw", "throws", "try", "catch", "finally", "synchronized", "assert", "volatile", "transient",
            "native", "package", "protected", "Object", "Random", "System.out", "Thread", "HashMap", "Map", "Set")) {
            must(!bare.matches("(?s).*\\b" + word.replace(".", "\\.") + "\\b.*"), "no " + word);
        }
        for (String sign : List.of("->", "::", "@", "Exact", "?>", "static {")) {
            must(!bare.contains(sign), "no " + sign);
        }
        must(bare.lines().filter(l -> l.startsWith("import")).allMatch(l -> l.equals("import java.util.Arrays;")), "imports");
        must(source.chars().allMatch(c -> c == '\n' || c >= 32 && c < 127), "plain signs alone");
        must(longestMethod(source) <= 60, "methods stay short");
        library(bare);
        makers(bare);
    }

    /** What the class uses of the library is less than rule 4 leaves, and should not grow unseen. */
    private static void library(String bare) {
        List<String> used = List.of("Arrays.fill", "System.arraycopy", "Integer.bitCount", "Math.max", "Math.min");
        Matcher m = Pattern.compile("\\b([A-Z]\\w*\\.\\w+)\\(").matcher(bare);
        while (m.find()) {
            must(used.contains(m.group(1)), m.group(1) + " is not allowed");
        }
        Matcher ofTexts = Pattern.compile("\\.(length|charAt|isEmpty|equals|substring|toCharArray|append|clone|get|add)\\(").matcher(bare);
        must(!ofTexts.find(), "of a String indexOf alone is used");
    }

    /** All calls of one run live in one room: objects are made where an object is made, and nowhere else. */
    private static void makers(String bare) {
        boolean making = false;
        for (String line : bare.split("\n")) {
            making = line.startsWith("    public DustSills()") || making && !line.equals("    }");
            boolean field = line.matches(" {8}(private )?final [^(]* = new .*;");
            must(making || field || !line.matches(".*\\bnew\\b.*"), "something is made by: " + line.trim());
        }
    }

    /** So much of the room does one object take: objects and arrays, and their fields and elements. */
    private static void room() throws IllegalAccessException {
        IdentityHashMap<Object, Boolean> seen = new IdentityHashMap<>();
        Deque<Object> open = new ArrayDeque<>(List.of(new DustSills()));
        int parts = 0;
        while (!open.isEmpty()) {
            Object o = open.pop();
            if (seen.put(o, true) == null) {
                List<Object> inside = partsOf(o);
                parts += inside.size();
                inside.stream().filter(p -> p.getClass().isArray() || p.getClass().getName().startsWith("DustSills")).forEach(open::push);
            }
        }
        must(seen.size() <= 100, "an object is some 100 objects and arrays at most, not " + seen.size());
        must(parts <= 2000, "an object has some 2000 fields and elements at most, not " + parts);
    }

    private static List<Object> partsOf(Object o) throws IllegalAccessException {
        List<Object> all = new ArrayList<>();
        for (int i = 0; o.getClass().isArray() && i < Array.getLength(o); i++) {
            all.add(Array.get(o, i));
        }
        for (Field f : o.getClass().getDeclaredFields()) {
            if (!Modifier.isStatic(f.getModifiers())) {
                f.setAccessible(true);
                all.add(f.get(o));
            }
        }
        return all;
    }

    private static int longestMethod(String source) {
        int longest = 0;
        int began = 0;
        String[] lines = source.split("\n");
        for (int i = 0; i < lines.length; i++) {
            if (lines[i].matches("( {4}| {8})[a-zA-Z].*\\) \\{")) {
                began = i;
            }
            if (lines[i].matches("( {4}| {8})\\}") && lines[began].indexOf(lines[began].trim()) == lines[i].indexOf('}')) {
                longest = Math.max(longest, i - began + 1);
                began = i;
            }
        }
        return longest;
    }

    public static void main(String[] args) throws IOException, IllegalAccessException {
        face();
        classes();
        words(Files.readString(Path.of(System.getProperty("dust.root", "."), "src/main/java/DustSills.java")));
        room();
        System.out.println(wrong == 0 ? "the rules are kept" : wrong + " rules are not kept");
        if (wrong != 0) {
            System.exit(1);
        }
    }
}
