import java.util.ArrayList;
import java.util.List;
import java.util.function.ToIntFunction;

/** Each ERROR of each call is answered, told, and changes nothing else. */
public final class ErrorTest {
    private static final int BEYOND = -1000000001;
    private static final int NONE = -1000000002;
    private static final int STATE = -1000000003;
    private static final int FULL = -1000000004;
    private static final int KIND = -1000000005;

    private static int wrong = 0;

    /** An object in which nothing is as at first, so that a change anywhere shows. */
    private static DustSills busy() {
        DustSills x = new DustSills();
        for (int i = 0; i < 8; i++) {
            x.heir(10 * (i % 7) + i, 15 - i, i == 7 ? 90 : i == 6 ? 0 : i % 3);
        }
        for (int i = 0; i < 16; i++) {
            x.sill(i, 0, i * 7 % 10);
            x.sill(i, 1, (i * 5 + 2) % 16);
        }
        x.town(0, 3);
        x.town(1, 4);
        x.town(2, 70);
        x.feed(0x7063L, 1);
        x.text(0);
        x.feed(0x312b6cL, 3);
        x.text(1);
        x.image();
        x.loose(7);
        x.voice(6, 3, 77);
        x.sheet(0, 8, 3);
        x.put(0, 1, 4);
        x.sheet(1, 32, 40);
        x.put(1, 39, 8);
        x.sheet(2, 8, 0);
        for (int i = 0; i < 20; i++) {
            x.tell(i == 0 ? x.count(4) + x.light(1) : i);
        }
        for (int i = 0; i < 6; i++) {
            x.feed(0x313131312b313131L, 8);
        }
        x.feed('1', 1);
        return x;
    }

    private static List<Integer> seen(DustSills x) {
        List<Integer> all = new ArrayList<>();
        for (int i = 0; i <= 10; i++) {
            all.add(x.count(i));
        }
        for (int s = 0; s < 16; s++) {
            for (int what = 0; what < 4; what++) {
                all.add(x.ofSill(s, what));
            }
        }
        for (int h = 0; h < 8; h++) {
            for (int what = 0; what < 10; what++) {
                all.add(x.ofHeir(h, what));
            }
        }
        for (int i = 0; i < 9; i++) {
            all.add(x.trace(i));
        }
        all.add(x.law(0, 5, 6, 7));
        all.add(x.law(1, 5, 6, 7));
        return all;
    }

    /** This changes the object, and so comes last. */
    private static List<Integer> seenLast(DustSills x) {
        List<Integer> all = new ArrayList<>(seen(x));
        for (int i = 0; i < 4; i++) {
            all.add(x.judge(i));
            all.add(x.suns(i));
            for (int s = 0; s < 16; s++) {
                all.add(x.ofSill(s, 0));
            }
        }
        all.add(x.move(1, 39, 1, 0, 1));
        all.add(x.suns(1));
        all.add(x.check());
        all.add(x.text(1));
        all.addAll(seen(x));
        all.add(x.restore());
        all.addAll(seen(x));
        all.add(x.image());
        return all;
    }

    private static void due(String call, int error, ToIntFunction<DustSills> act) {
        DustSills x = busy();
        int[] told = new int[6];
        for (int k = 1; k <= 5; k++) {
            told[k] = x.told(k);
        }
        int got = act.applyAsInt(x);
        boolean counted = true;
        for (int k = 1; k <= 5; k++) {
            counted &= x.told(k) == told[k] + (-1000000000 - k == error ? 1 : 0);
        }
        boolean still = seenLast(x).equals(seenLast(busy()));
        if (got != error || !counted || !still) {
            wrong++;
            System.out.println(call + " answered " + got + ", due is " + error + (counted ? "" : "; told otherwise")
                + (still ? "" : "; something changed"));
        }
    }

    private static void ofTownAndHeirs() {
        due("sill(16, 0, 1)", BEYOND, x -> x.sill(16, 0, 1));
        due("sill(1, 2, 1)", BEYOND, x -> x.sill(1, 2, 1));
        due("sill(1, 0, 10)", BEYOND, x -> x.sill(1, 0, 10));
        due("sill(1, 1, -1)", BEYOND, x -> x.sill(1, 1, -1));
        due("ofSill(1, 4)", BEYOND, x -> x.ofSill(1, 4));
        due("town(0, 10)", BEYOND, x -> x.town(0, 10));
        due("town(1, 0)", BEYOND, x -> x.town(1, 0));
        due("town(2, 100000)", BEYOND, x -> x.town(2, 100000));
        due("heir(70, 0, 0)", BEYOND, x -> x.heir(70, 0, 0));
        due("heir(0, 0, 0)", FULL, x -> x.heir(0, 0, 0));
        due("ofHeir(8, 0)", BEYOND, x -> x.ofHeir(8, 0));
        due("change(8, 0, 0)", BEYOND, x -> x.change(8, 0, 0));
        due("change(7, 2, 16)", BEYOND, x -> x.change(7, 2, 16));
        due("change(7, 2, 0)", STATE, x -> x.change(7, 2, 0));
        due("change(0, 1, 100)", BEYOND, x -> x.change(0, 1, 100));
        due("become(0, 70)", BEYOND, x -> x.become(0, 70));
        due("as(0, 7)", BEYOND, x -> x.as(0, 7));
        due("as(0, 1)", KIND, x -> x.as(0, 1));
        due("feed(1, 9)", BEYOND, x -> x.feed(1, 9));
        due("feed(1, 2)", FULL, x -> x.feed(1, 2));
        due("text(2)", BEYOND, x -> x.text(2));
        due("law(2, 0, 0, 0)", BEYOND, x -> x.law(2, 0, 0, 0));
        due("days(0)", BEYOND, x -> x.days(0));
        due("days(61)", BEYOND, x -> x.days(61));
        due("loose(0)", BEYOND, x -> x.loose(0));
        due("loose(41)", BEYOND, x -> x.loose(41));
    }

    private static void ofThoughts() {
        due("then(61, 0)", BEYOND, x -> x.then(61, 0));
        due("first(16, 0)", BEYOND, x -> x.first(16, 0));
        due("meet(1, 1)", BEYOND, x -> x.meet(1, 1));
        due("meet(0, 7)", NONE, x -> x.meet(0, 7));
        due("bright(0, 10000)", BEYOND, x -> x.bright(0, 10000));
        due("bright(7, 1)", NONE, x -> x.bright(7, 1));
        due("place(0, 31, 0)", BEYOND, x -> x.place(0, 31, 0));
        due("cartsFor(256, 1)", BEYOND, x -> x.cartsFor(256, 1));
        due("cartsFor(128, 1)", NONE, x -> x.cartsFor(128, 1));
        due("stop(0, 21)", BEYOND, x -> x.stop(0, 21));
        due("swap(21)", BEYOND, x -> x.swap(21));
        due("sunFor(0, 10000, 0)", BEYOND, x -> x.sunFor(0, 10000, 0));
        due("sunFor(0, 9999, 1)", NONE, x -> x.sunFor(0, 9999, 1));
        due("sweepFor(8, 0)", BEYOND, x -> x.sweepFor(8, 0));
        due("whence(3, 8, 0)", BEYOND, x -> x.whence(3, 8, 0));
        due("whence(3, 0, 0)", NONE, x -> x.whence(3, 0, 0));
        due("bare(61)", BEYOND, x -> x.bare(61));
        due("crowd(0, 2)", BEYOND, x -> x.crowd(0, 2));
        due("light(61)", BEYOND, x -> x.light(61));
        due("late(256)", BEYOND, x -> x.late(256));
        due("late(128)", NONE, x -> x.late(128));
        due("odds(0, 0, 2)", BEYOND, x -> x.odds(0, 0, 2));
    }

    private static void ofSheetsAndTheRest() {
        due("voice(0, 4, 0)", BEYOND, x -> x.voice(0, 4, 0));
        due("trace(9)", NONE, x -> x.trace(9));
        due("sheet(4, 8, -1)", BEYOND, x -> x.sheet(4, 8, -1));
        due("sheet(0, 9, -1)", BEYOND, x -> x.sheet(0, 9, -1));
        due("sheet(0, 8, -1)", STATE, x -> x.sheet(0, 8, -1));
        due("sheet(0, 8, 41)", BEYOND, x -> x.sheet(0, 8, 41));
        due("put(4, 0, 1)", BEYOND, x -> x.put(4, 0, 1));
        due("put(3, 99, 1)", NONE, x -> x.put(3, 99, 1));
        due("put(0, 3, 1)", BEYOND, x -> x.put(0, 3, 1));
        due("move(3, 0, 4, 0, 0)", BEYOND, x -> x.move(3, 0, 4, 0, 0));
        due("move(0, 0, 3, 0, -1)", NONE, x -> x.move(0, 0, 3, 0, -1));
        due("move(0, 0, 1, 0, -1)", KIND, x -> x.move(0, 0, 1, 0, -1));
        due("move(0, 0, 0, 1, 3)", BEYOND, x -> x.move(0, 0, 0, 1, 3));
        due("move(0, 0, 2, 0, 1)", BEYOND, x -> x.move(0, 0, 2, 0, 1));
        due("suns(4)", BEYOND, x -> x.suns(4));
        due("suns(3)", NONE, x -> x.suns(3));
        due("judge(-1)", BEYOND, x -> x.judge(-1));
        due("judge(3)", NONE, x -> x.judge(3));
        due("tell(1)", FULL, x -> x.tell(1));
        due("count(11)", BEYOND, x -> x.count(11));
        due("told(6)", BEYOND, x -> x.told(6));
    }

    /** What only thinks or looks changes nothing either, though it answers no ERROR. */
    private static void thoughtsAlone() {
        DustSills x = busy();
        x.then(60, 0);
        x.first(3, 1);
        x.meet(0, 6);
        x.bright(0, 50);
        x.place(0, 30, 1);
        x.cartsFor(1, 30);
        x.stop(0, 20);
        x.swap(20);
        x.sunFor(0, 1, 30);
        x.sweepFor(0, 60);
        x.whence(1, 0, 0);
        x.whence(2, 7, 1);
        x.bare(60);
        x.crowd(60, 0);
        x.light(60);
        x.late(1);
        x.odds(0, 60, 0);
        x.told(1);
        if (!seenLast(x).equals(seenLast(busy()))) {
            wrong++;
            System.out.println("what is only thought changed something");
        }
    }

    public static void main(String[] args) {
        ofTownAndHeirs();
        ofThoughts();
        ofSheetsAndTheRest();
        thoughtsAlone();
        System.out.println(wrong == 0 ? "ERRORS change nothing" : wrong + " ERRORS are not as due");
        if (wrong != 0) {
            System.exit(1);
        }
    }
}
