import java.util.ArrayList;
import java.util.List;
import java.util.Random;

/** Random runs of calls on new objects: each answer is to be the one that Model gives. */
public final class ModelTest {
    private static final int RUNS = 700;
    private static final int CALLS = 500;
    /** The document promises 512 calls; one act here makes up to so many, where it looks at all. */
    private static final int MOST_AT_ONCE = 200;
    private static final int[] ODD = {-1, Integer.MIN_VALUE, Integer.MAX_VALUE, -1000000001, 100000, -7};

    private final Random r;
    private final DustSills d = new DustSills();
    private final Model m = new Model();
    private final List<String> calls = new ArrayList<>();
    private boolean wrong;

    private ModelTest(long seed) {
        r = new Random(seed);
    }

    private void due(String call, int got, int want) {
        calls.add(call + " = " + got);
        if (got != want) {
            wrong = true;
            System.out.println(String.join("\n", calls) + "\n  ^ due is " + want);
        }
    }

    /** A number from lo to hi; at times one just outside, or far off. */
    private int any(int lo, int hi) {
        int dice = r.nextInt(60);
        if (dice == 0) return ODD[r.nextInt(ODD.length)];
        if (dice == 1) return hi + 1;
        if (dice == 2) return lo - 1;
        if (dice == 3) return hi;
        if (dice == 4) return lo;
        return lo + r.nextInt(hi - lo + 1);
    }

    private int anyHeir() {
        return any(0, Math.max(0, m.now.people.size() - 1));
    }

    private int anySet() {
        return any(0, (1 << m.now.people.size()) - 1) & (r.nextInt(3) == 0 ? -1 : 1 << r.nextInt(8));
    }

    private int anyNumber() {
        int dice = r.nextInt(4);
        return dice == 0 ? r.nextInt() : dice == 1 ? ODD[r.nextInt(ODD.length)] : r.nextInt(200) - 100;
    }

    private String anyText(int deep, String names) {
        int dice = deep <= 0 ? r.nextInt(2) : r.nextInt(10);
        if (dice == 0) return String.valueOf(r.nextInt(dice(10)));
        if (dice == 1) return String.valueOf(names.charAt(r.nextInt(names.length())));
        if (dice == 2) return "!" + anyText(deep - 1, names);
        if (dice == 3) return "(" + anyText(deep - 1, names) + ")";
        char joiner = "|&<=>+-*/%+-*%".charAt(r.nextInt(14));
        return anyText(deep - 1, names) + joiner + anyText(deep - 1, names);
    }

    private int dice(int base) {
        return r.nextBoolean() ? base : r.nextBoolean() ? 100 : 10000;
    }

    private String spoilt(String t) {
        StringBuilder b = new StringBuilder(t);
        String signs = "|&<=>+-*/%!()0123456789cdpls x\u00e9";
        for (int i = r.nextInt(3); i >= 0; i--) {
            int at = r.nextInt(b.length() + 1);
            if (r.nextBoolean() || at == b.length()) {
                b.insert(at, signs.charAt(r.nextInt(signs.length())));
            } else if (r.nextBoolean()) {
                b.deleteCharAt(at);
            } else {
                b.setCharAt(at, signs.charAt(r.nextInt(signs.length())));
            }
        }
        return b.toString();
    }

    private void feedText() {
        int use = r.nextInt(2);
        String t = anyText(r.nextInt(5), use == 0 ? "cdp" : "lsd");
        if (r.nextInt(3) == 0) t = spoilt(t);
        if (r.nextInt(12) == 0) t = "!(!(!(".substring(r.nextInt(4)) + t + ")))".substring(r.nextInt(4));
        for (int i = 0; i < t.length(); i += 8) {
            long word = r.nextLong();
            int n = Math.min(8, t.length() - i);
            for (int k = 0; k < n; k++) {
                word = word & ~(255L << 8 * k) | (long) t.charAt(i + k) << 8 * k;
            }
            due("feed(" + word + "L, " + n + ")", d.feed(word, n), m.feed(word, n));
        }
        use = any(use, use);
        due("text(" + use + ") [" + t + "]", d.text(use), m.text(use));
    }

    /** A sheet that tells where one would lie, so that whence() has something to find. */
    private void trueSheet() {
        if (m.now.people.isEmpty()) return;
        int h = r.nextInt(m.now.people.size());
        int n = r.nextInt(r.nextBoolean() ? 4 : 41);
        int b = 8 << r.nextInt(3);
        int s = r.nextInt(4);
        due("sheet(" + s + ", " + b + ", " + n + ")", d.sheet(s, b, n), m.sheet(s, b, n));
        Model.World w = m.now.copy();
        if (r.nextBoolean()) {
            Model.Person p = w.people.get(h);
            p.kind = r.nextInt(7);
            p.left = 0;
            p.at = r.nextInt(16);
        }
        for (int i = 0; i < n; i++) {
            int v = w.day().people.get(h).at;
            due("put(" + s + ", " + i + ", " + v + ")", d.put(s, i, v), m.put(s, i, v));
        }
        due("whence(" + s + ", " + h + ", 0)", d.whence(s, h, 0), m.whence(s, h, 0));
        due("whence(" + s + ", " + h + ", 1)", d.whence(s, h, 1), m.whence(s, h, 1));
    }

    private void tellTruth() {
        int n = r.nextInt(22);
        Model.World w = m.now.copy();
        int lie = r.nextInt(40);
        for (int i = 0; i < n; i++) {
            int v = w.day().glory + (i == lie ? 1 : 0);
            due("tell(" + v + ")", d.tell(v), m.tell(v));
        }
        due("check()", d.check(), m.check());
    }

    /** A sheet that tells the lots, but for one of them at times. */
    private void lotSheet() {
        int s = r.nextInt(4);
        int n = Math.max(0, m.now.people.size() + (r.nextInt(3) == 0 ? r.nextInt(3) - 1 : 0));
        due("sheet(" + s + ", 8, " + n + ")", d.sheet(s, 8, n), m.sheet(s, 8, n));
        int lie = r.nextInt(20);
        for (int i = 0; i < n && i < m.now.people.size(); i++) {
            int v = m.now.people.get(i).lot + (i == lie ? 1 : 256 * r.nextInt(3));
            due("put(" + s + ", " + i + ", " + v + ")", d.put(s, i, v), m.put(s, i, v));
        }
        due("judge(" + s + ")", d.judge(s), m.judge(s));
    }

    private void seeAll() {
        for (int what = -1; what <= 11; what++) {
            due("count(" + what + ")", d.count(what), m.count(what));
        }
        for (int k = 0; k <= 6; k++) {
            due("told(" + k + ")", d.told(k), m.told(k));
        }
        for (int s = 0; s < 16; s++) {
            for (int what = 0; what < 4; what++) {
                due("ofSill(" + s + ", " + what + ")", d.ofSill(s, what), m.ofSill(s, what));
            }
        }
        for (int h = 0; h < m.now.people.size(); h++) {
            for (int what = 0; what < 10; what++) {
                due("ofHeir(" + h + ", " + what + ")", d.ofHeir(h, what), m.ofHeir(h, what));
            }
        }
        for (int i = 0; i <= m.trace.size(); i++) {
            due("trace(" + i + ")", d.trace(i), m.trace(i));
        }
    }

    private void act(int which) {
        int a;
        int b;
        int c;
        switch (which) {
            case 0: a = any(0, 15); b = any(0, 1); c = any(0, b == 0 ? 9 : 15);
                due("sill(" + a + ", " + b + ", " + c + ")", d.sill(a, b, c), m.sill(a, b, c)); break;
            case 1: a = any(0, 15); b = any(0, 3);
                due("ofSill(" + a + ", " + b + ")", d.ofSill(a, b), m.ofSill(a, b)); break;
            case 2: a = any(0, 2); b = a == 0 ? any(0, 9) : a == 1 ? any(1, 30) : any(r.nextBoolean() ? 0 : 99000, 99999);
                due("town(" + a + ", " + b + ")", d.town(a, b), m.town(a, b)); break;
            case 3: a = any(0, 69); b = any(0, 15); c = r.nextBoolean() ? 0 : any(0, r.nextBoolean() ? 9 : 99);
                due("heir(" + a + ", " + b + ", " + c + ")", d.heir(a, b, c), m.heir(a, b, c)); break;
            case 4: a = anyHeir(); b = any(0, 9);
                due("ofHeir(" + a + ", " + b + ")", d.ofHeir(a, b), m.ofHeir(a, b)); break;
            case 5: a = anyHeir(); b = any(0, 3);
                c = b == 1 ? any(0, r.nextBoolean() ? 1 : 99) : b == 3 ? any(r.nextBoolean() ? 0 : 9900, 9999) : any(0, 15);
                due("change(" + a + ", " + b + ", " + c + ")", d.change(a, b, c), m.change(a, b, c)); break;
            case 6: a = anyHeir(); b = any(0, 69);
                due("become(" + a + ", " + b + ")", d.become(a, b), m.become(a, b)); break;
            case 7: a = anyHeir(); b = any(0, 6);
                due("as(" + a + ", " + b + ")", d.as(a, b), m.as(a, b)); break;
            case 8: long word = r.nextLong(); a = any(1, 8);
                due("feed(" + word + "L, " + a + ")", d.feed(word, a), m.feed(word, a)); break;
            case 9: feedText(); break;
            case 10: a = any(0, 1); b = anyNumber(); c = anyNumber(); int e = anyNumber();
                due("law(" + a + ", " + b + ", " + c + ", " + e + ")", d.law(a, b, c, e), m.law(a, b, c, e)); break;
            case 11: a = any(1, r.nextBoolean() ? 5 : 60);
                due("days(" + a + ")", d.days(a), m.days(a)); break;
            case 12: a = any(1, r.nextBoolean() ? 5 : 40);
                due("loose(" + a + ")", d.loose(a), m.loose(a)); break;
            case 13: a = any(0, 60); b = anyHeir();
                due("then(" + a + ", " + b + ")", d.then(a, b), m.then(a, b)); break;
            case 14: a = any(0, 15); b = any(0, 1);
                due("first(" + a + ", " + b + ")", d.first(a, b), m.first(a, b)); break;
            case 15: a = anyHeir(); b = anyHeir();
                due("meet(" + a + ", " + b + ")", d.meet(a, b), m.meet(a, b)); break;
            default: actMore(which);
        }
    }

    private void actMore(int which) {
        int a;
        int b;
        int c;
        switch (which) {
            case 16: a = anyHeir(); b = any(0, r.nextBoolean() ? 9999 : 400);
                due("bright(" + a + ", " + b + ")", d.bright(a, b), m.bright(a, b)); break;
            case 17: a = anyHeir(); b = any(0, 30); c = any(0, 1);
                due("place(" + a + ", " + b + ", " + c + ")", d.place(a, b, c), m.place(a, b, c)); break;
            case 18: a = anySet(); b = any(0, 30);
                due("cartsFor(" + a + ", " + b + ")", d.cartsFor(a, b), m.cartsFor(a, b)); break;
            case 19: a = anyHeir(); b = any(0, 20);
                due("stop(" + a + ", " + b + ")", d.stop(a, b), m.stop(a, b)); break;
            case 20: a = any(0, 20);
                due("swap(" + a + ")", d.swap(a), m.swap(a)); break;
            case 21: a = any(0, 15); b = any(0, r.nextBoolean() ? 9999 : 600); c = any(0, 30);
                if (r.nextInt(3) == 0 && c >= 0 && c <= 30) b = Math.min(9999, m.now.copy().days(c).glory - m.now.glory + r.nextInt(9));
                due("sunFor(" + a + ", " + b + ", " + c + ")", d.sunFor(a, b, c), m.sunFor(a, b, c)); break;
            case 22: a = anyHeir(); b = any(0, 60);
                due("sweepFor(" + a + ", " + b + ")", d.sweepFor(a, b), m.sweepFor(a, b)); break;
            case 23: a = any(0, 3); b = anyHeir(); c = any(0, 1);
                due("whence(" + a + ", " + b + ", " + c + ")", d.whence(a, b, c), m.whence(a, b, c)); break;
            case 24: a = any(0, 60);
                due("bare(" + a + ")", d.bare(a), m.bare(a)); break;
            case 25: a = any(0, 60); b = any(0, 1);
                due("crowd(" + a + ", " + b + ")", d.crowd(a, b), m.crowd(a, b)); break;
            case 26: a = any(0, 60);
                due("light(" + a + ")", d.light(a), m.light(a)); break;
            case 27: a = anySet();
                due("late(" + a + ")", d.late(a), m.late(a)); break;
            case 28: a = anyHeir(); b = any(0, 60); c = any(0, 1);
                due("odds(" + a + ", " + b + ", " + c + ")", d.odds(a, b, c), m.odds(a, b, c)); break;
            case 29: a = anyNumber();
                due("seed(" + a + ")", d.seed(a), m.seed(a)); break;
            case 30: a = anyHeir(); b = any(0, 3); c = anyNumber();
                due("voice(" + a + ", " + b + ", " + c + ")", d.voice(a, b, c), m.voice(a, b, c)); break;
            case 31: a = any(0, 9);
                due("trace(" + a + ")", d.trace(a), m.trace(a)); break;
            default: actOnSheets(which);
        }
    }

    private void actOnSheets(int which) {
        int a;
        int b;
        int c;
        switch (which) {
            case 32: a = any(0, 3); b = r.nextInt(9) == 0 ? any(0, 32) : 8 * r.nextInt(5); c = any(0, r.nextBoolean() ? 40 : 5);
                due("sheet(" + a + ", " + b + ", " + c + ")", d.sheet(a, b, c), m.sheet(a, b, c)); break;
            case 33: a = any(0, 3); b = any(0, r.nextBoolean() ? 39 : 5); c = r.nextBoolean() ? any(0, 12) : anyNumber();
                due("put(" + a + ", " + b + ", " + c + ")", d.put(a, b, c), m.put(a, b, c)); break;
            case 34: a = any(0, 3); b = any(0, 3); c = any(0, 3); int e = any(0, 3); int n = any(0, 5);
                due("move(" + a + ", " + b + ", " + c + ", " + e + ", " + n + ")", d.move(a, b, c, e, n), m.move(a, b, c, e, n));
                break;
            case 35: a = any(0, 3);
                due("suns(" + a + ")", d.suns(a), m.suns(a)); break;
            case 36: a = any(0, 3);
                due("judge(" + a + ")", d.judge(a), m.judge(a)); break;
            case 37: if (r.nextInt(3) == 0) due("image()", d.image(), m.image()); break;
            case 38: if (r.nextInt(3) == 0) due("restore()", d.restore(), m.restore()); break;
            case 39: a = anyNumber();
                due("tell(" + a + ")", d.tell(a), m.tell(a)); break;
            case 40: due("check()", d.check(), m.check()); break;
            case 41: a = any(0, 10);
                due("count(" + a + ")", d.count(a), m.count(a)); break;
            case 42: a = any(1, 5);
                due("told(" + a + ")", d.told(a), m.told(a)); break;
            case 43: trueSheet(); break;
            case 44: tellTruth(); break;
            case 45: lotSheet(); break;
            default: if (r.nextInt(4) == 0) seeAll();
        }
    }

    private boolean goesWrong() {
        int people = r.nextInt(9);
        for (int i = 0; i < people; i++) {
            act(3);
        }
        for (int i = r.nextInt(20); i > 0; i--) {
            act(0);
        }
        if (r.nextBoolean()) {
            act(9);
        }
        for (int i = 0; i < CALLS && !wrong && calls.size() + MOST_AT_ONCE <= 512; i++) {
            act(r.nextInt(47));
        }
        return wrong;
    }

    public static void main(String[] args) {
        for (int run = 0; run < RUNS; run++) {
            if (new ModelTest(run).goesWrong()) {
                System.out.println("run " + run + " goes wrong");
                System.exit(1);
            }
        }
        System.out.println(RUNS + " runs are as the model has them");
    }
}
