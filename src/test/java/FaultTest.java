import java.util.HashMap;
import java.util.Map;
import java.util.Random;

/**
 * TEXTS and their FAULTS by the words of the document alone: what a TEXT is, by cutting it in all ways that the grammar
 * has; and a FAULT by trying whether any TEXT begins so. Nothing here reads from left to right, as the class does.
 */
public final class FaultTest extends Hands {
    private static final String SIGNS = "1c!()|&<+*x";
    private static final int ALL_UP_TO = 4;
    private static final int LONG_ONES = 4000;
    private static final int MOST_OPEN = 5;
    /** So many tapes for one object, as it is used for at most 512 calls. */
    private static final int TAPES = 60;
    private static final String[] JOINERS = {"|", "&", "<=>", "+-", "*/%"};
    private static final int COMPARING = 2;

    private static final Map<String, Boolean> KNOWN = new HashMap<>();
    private static DustSills x = new DustSills();
    private static int tapes = 0;

    // ---- what a TEXT is

    private static boolean isText(String s) {
        return is(s, 0, 0);
    }

    /** Whether s is a T, A, B, S, P (levels 0 to 4) or Q (5), where so many of ! and ( are open already. */
    private static boolean is(String s, int level, int open) {
        if (s.isEmpty()) {
            return false;
        }
        String key = level + "," + open + "," + s;
        Boolean known = KNOWN.get(key);
        if (known == null) {
            known = level == JOINERS.length ? isPart(s, open) : is(s, level + 1, open) || isJoined(s, level, open);
            KNOWN.put(key, known);
        }
        return known;
    }

    private static boolean isJoined(String s, int level, int open) {
        int left = level == COMPARING ? level + 1 : level;
        for (int i = 1; i < s.length() - 1; i++) {
            if (JOINERS[level].indexOf(s.charAt(i)) >= 0 && is(s.substring(0, i), left, open)
                && is(s.substring(i + 1), level + 1, open)) {
                return true;
            }
        }
        return false;
    }

    private static boolean isPart(String s, int open) {
        if (s.matches("[0-9]{1,4}|[cdp]")) {
            return true;
        }
        if (open == MOST_OPEN) {
            return false;
        }
        return s.charAt(0) == '!' && is(s.substring(1), JOINERS.length, open + 1)
            || s.charAt(0) == '(' && s.endsWith(")") && is(s.substring(1, s.length() - 1), 0, open + 1);
    }

    // ---- what a FAULT is

    /** Whether any TEXT begins so: if one does, then also one that ends by a NAME, where one lacks, and by brackets. */
    private static boolean goesOn(String s) {
        String end = "";
        for (int i = 0; i <= MOST_OPEN; i++) {
            if (isText(s + end) || isText(s + "c" + end)) {
                return true;
            }
            end += ")";
        }
        return false;
    }

    private static int answerTo(String s) {
        if (isText(s)) {
            return 1;
        }
        for (int i = 0; i < s.length(); i++) {
            if (!goesOn(s.substring(0, i + 1))) {
                return -10 - i;
            }
        }
        return -10 - s.length();
    }

    // ---- comparing

    private static int written(String s) {
        tapes++;
        if (tapes % TAPES == 0) {
            x = new DustSills();
        }
        return write(x, 0, s);
    }

    private static void all(String s) {
        due("text " + s, written(s), answerTo(s));
        if (s.length() < ALL_UP_TO) {
            for (char sign : SIGNS.toCharArray()) {
                all(s + sign);
            }
        }
    }

    /** Mostly such as goes on, so that the FAULT lies deep, or there is none. */
    private static String longOne(Random r) {
        String signs = "!!!((()))cd9=>-/%";
        StringBuilder b = new StringBuilder();
        int length = 5 + r.nextInt(16);
        while (b.length() < length) {
            String some = r.nextInt(3) == 0 ? SIGNS : signs;
            b.append(some.charAt(r.nextInt(some.length())));
            if (!goesOn(b.toString()) && r.nextInt(12) != 0) {
                b.setLength(b.length() - 1);
                length--;
            }
        }
        return b.toString();
    }

    public static void main(String[] args) {
        says("FAULT: the place of the first byte with which no TEXT goes on; how many there are, if it ends too early.");
        all("");
        Random r = new Random(50);
        int good = 0;
        for (int i = 0; i < LONG_ONES; i++) {
            String s = longOne(r);
            int want = answerTo(s);
            good += want == 1 ? 1 : 0;
            due("text " + s, written(s), want);
            KNOWN.clear();
        }
        due("there were TEXTS among the long ones", good > LONG_ONES / 20 ? 1 : 0, 1);
        end("each FAULT is the first byte with which no TEXT goes on");
    }
}
