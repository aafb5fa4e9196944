import java.io.IOException;
import java.lang.reflect.Method;
import java.nio.file.Files;
import java.nio.file.Path;
import java.util.ArrayList;
import java.util.List;
import java.util.regex.Matcher;
import java.util.regex.Pattern;

/**
 * README.md is true: the answers of its example are those of the class, and each call stands there with the arguments and
 * the ERRORS, in order, that ../shared/DOC.md has for it.
 */
public final class ReadmeTest extends Hands {
    private static final Pattern EXAMPLE = Pattern.compile("^town\\.(\\w+)\\((.*)\\); +// (-?\\d+):.*$", Pattern.MULTILINE);
    private static final Pattern PROMISED = Pattern.compile("^`int (\\w+)\\((.*?)\\)`: (.*)$", Pattern.MULTILINE);
    private static final Pattern ROW = Pattern.compile("^\\| `(\\w+)\\((.*?)\\)` \\|.*\\| ?([^|]*?) ?\\|$", Pattern.MULTILINE);
    /** Where the document names an ERROR, and not the KIND of one: at a sentence's beginning, or as the later of two. */
    private static final Pattern OWN_ERROR =
        Pattern.compile("(?:[.;] |ahead of )(BEYOND|NONE|STATE|FULL|KIND)(?=[.: ])");
    private static final Pattern ERROR = Pattern.compile("BEYOND|NONE|STATE|FULL|KIND");
    private static final int CALLS = 43;

    private static void examples(String readme) throws ReflectiveOperationException {
        DustSills town = new DustSills();
        int found = 0;
        Matcher m = EXAMPLE.matcher(readme);
        while (m.find()) {
            found++;
            due(m.group(), called(town, m.group(1), m.group(2).split(", ")), Integer.parseInt(m.group(3)));
        }
        due("lines of the example", found, (int) readme.lines().filter(l -> l.startsWith("town.")).count());
        due("there is an example", found > 9 ? 1 : 0, 1);
    }

    private static int called(DustSills town, String name, String[] words) throws ReflectiveOperationException {
        for (Method method : DustSills.class.getMethods()) {
            if (method.getName().equals(name) && method.getParameterCount() == words.length) {
                Object[] arguments = new Object[words.length];
                for (int i = 0; i < words.length; i++) {
                    long v = Long.decode(words[i].replace("L", ""));
                    arguments[i] = method.getParameterTypes()[i] == long.class ? (Object) v : (Object) (int) v;
                }
                return (Integer) method.invoke(town, arguments);
            }
        }
        tellWrong("there is no call " + name);
        return 0;
    }

    private static List<String> found(Pattern pattern, int group, String text) {
        List<String> all = new ArrayList<>();
        Matcher m = pattern.matcher(text);
        while (m.find()) {
            all.add(m.group(group));
        }
        return all;
    }

    private static void calls(String readme, String doc) {
        List<String> want = new ArrayList<>();
        Matcher promised = PROMISED.matcher(doc);
        while (promised.find()) {
            String names = promised.group(2).replaceAll("\\b(int|long) ", "");
            want.add(promised.group(1) + "(" + names + ") " + found(OWN_ERROR, 1, promised.group(3)));
        }
        List<String> got = new ArrayList<>();
        Matcher row = ROW.matcher(readme);
        while (row.find()) {
            got.add(row.group(1) + "(" + row.group(2) + ") " + found(ERROR, 0, row.group(3)));
        }
        due("calls that the document promises", want.size(), CALLS);
        for (int i = 0; i < want.size(); i++) {
            String at = i < got.size() ? got.get(i) : "nothing";
            if (!at.equals(want.get(i))) {
                tellWrong("README.md has " + at + ", due is " + want.get(i));
            }
        }
        due("calls in README.md", got.size(), CALLS);
    }

    private static void errors(String readme) {
        String[] names = {"BEYOND", "NONE", "STATE", "FULL", "KIND"};
        for (int k = 1; k <= names.length; k++) {
            String row = "(?s).*\\| " + (LOW - k) + " +\\| " + names[k - 1] + " +\\| " + k + " +\\|.*";
            due("README.md tells " + names[k - 1], readme.matches(row) ? 1 : 0, 1);
        }
    }

    private static void tests(String readme, Path folder) throws IOException {
        try (var files = Files.list(folder)) {
            for (Path file : files.filter(f -> f.toString().endsWith("Test.java")).toList()) {
                String name = file.getFileName().toString().replace(".java", "");
                due("README.md tells of " + name, readme.contains("- `" + name + "`:") ? 1 : 0, 1);
            }
        }
    }

    public static void main(String[] args) throws IOException, ReflectiveOperationException {
        Path root = Path.of(System.getProperty("dust.root", "."));
        String readme = Files.readString(root.resolve("README.md"));
        String doc = Files.readString(Path.of(System.getProperty("dust.doc", "../shared/DOC.md")));
        examples(readme);
        calls(readme, doc);
        errors(readme);
        tests(readme, root.resolve("src/test/java"));
        end("README.md is true");
    }
}
