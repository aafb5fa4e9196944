import java.io.IOException;
import java.nio.file.Files;
import java.nio.file.Path;

/** What the tests share: how an answer is compared and told, and small ways to bring an object about. */
abstract class Hands {
    static final int LOW = -1000000000;
    static final int BEYOND = LOW - 1;
    static final int NONE = LOW - 2;
    static final int STATE = LOW - 3;
    static final int FULL = LOW - 4;
    static final int KIND = LOW - 5;
    static final int MIN = Integer.MIN_VALUE;
    static final int MAX = Integer.MAX_VALUE;

    private static final String DOC = words(readDoc());

    private static int wrong = 0;
    private static String about = "";

    /** Empty, if the document isn't there: the answers can be compared without it. */
    private static String readDoc() {
        try {
            return Files.readString(Path.of(System.getProperty("dust.doc", "../shared/DOC.md")));
        } catch (IOException e) {
            System.out.println("the document can't be read, what is quoted of it is not looked up: " + e.getMessage());
            return "";
        }
    }

    private static String words(String text) {
        return text.replaceAll("[\\s`]+", " ").trim();
    }

    // ---- comparing

    /** What follows is of this promise. */
    static void promise(int number) {
        about = "promise " + number;
    }

    /** What follows is of this sentence, or piece of one, which must stand in the document. */
    static void says(String sentence) {
        about = "\"" + sentence + "\"";
        if (!DOC.isEmpty() && !DOC.contains(words(sentence))) {
            tellWrong("the document does not say so");
        }
    }

    static void tellWrong(String what) {
        wrong++;
        System.out.println(about + ": " + what);
    }

    static void due(String call, int got, int want) {
        if (got != want) {
            tellWrong(call + " answered " + got + ", due is " + want);
        }
    }

    static void row(String calls, int[] got, int... want) {
        if (got.length < want.length) {
            tellWrong(calls + " are " + got.length + ", due are " + want.length);
            return;
        }
        for (int i = 0; i < want.length; i++) {
            due(calls + ", the " + i + "th", got[i], want[i]);
        }
    }

    static void end(String good) {
        System.out.println(wrong == 0 ? good : wrong + " answers are not as due");
        if (wrong != 0) {
            System.exit(1);
        }
    }

    // ---- bringing about

    static DustSills one(int km, int lot, int left) {
        DustSills x = new DustSills();
        x.heir(km, lot, left);
        return x;
    }

    /** One of each KIND, all with one m and one LOT, and so many DAYS LEFT. */
    static DustSills allKinds(int m, int lot, int left) {
        DustSills x = new DustSills();
        for (int kind = 0; kind < 7; kind++) {
            x.heir(10 * kind + m, lot, left);
        }
        return x;
    }

    /** Bytes come to THE TAPE: the answer of the last feed(). */
    static int feedAll(DustSills x, String text) {
        int fed = 0;
        for (int i = 0; i < text.length(); i += 8) {
            long word = 0;
            int n = Math.min(8, text.length() - i);
            for (int k = 0; k < n; k++) {
                word |= (long) text.charAt(i + k) << 8 * k;
            }
            fed = x.feed(word, n);
        }
        return fed;
    }

    static int write(DustSills x, int use, String text) {
        feedAll(x, text);
        return x.text(use);
    }

    static void fill(DustSills x, int sheet, int bits, int... numbers) {
        x.sheet(sheet, bits, numbers.length);
        for (int i = 0; i < numbers.length; i++) {
            x.put(sheet, i, numbers[i]);
        }
    }

    static void lay(DustSills x, int... suns) {
        for (int i = 0; i < suns.length; i++) {
            x.sill(i, 0, suns[i]);
        }
    }

    static void layAll(DustSills x, int sun) {
        for (int i = 0; i < 16; i++) {
            x.sill(i, 0, sun);
        }
    }

    /** So many DAYS more, by as few calls as can be. */
    static void pass(DustSills x, int days) {
        for (int left = days; left > 0; left -= 60) {
            x.days(Math.min(60, left));
        }
    }

    // ---- looking

    static int[] counts(DustSills x) {
        int[] all = new int[11];
        for (int i = 0; i < all.length; i++) {
            all[i] = x.count(i);
        }
        return all;
    }

    static int[] errors(DustSills x) {
        int[] all = new int[5];
        for (int i = 0; i < all.length; i++) {
            all[i] = x.told(i + 1);
        }
        return all;
    }

    static int[] ofHeirs(DustSills x, int what) {
        int[] all = new int[x.count(0)];
        for (int i = 0; i < all.length; i++) {
            all[i] = x.ofHeir(i, what);
        }
        return all;
    }

    static int[] suns(DustSills x, int n) {
        int[] all = new int[n];
        for (int i = 0; i < n; i++) {
            all[i] = x.ofSill(i, 0);
        }
        return all;
    }
}
