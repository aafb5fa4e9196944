import java.util.ArrayDeque;
import java.util.ArrayList;
import java.util.Arrays;
import java.util.Deque;
import java.util.List;
import java.util.function.Consumer;
import java.util.function.ToIntFunction;

/**
 * A second reading of ../shared/DOC.md, slow and written apart from DustSills: texts are worked out
 * on their letters, kinds are told by lists of those above, and every thought copies all.
 */
final class Model {
    static final int BEYOND = -1000000001;
    static final int NONE = -1000000002;
    static final int STATE = -1000000003;
    static final int FULL = -1000000004;
    static final int KIND = -1000000005;

    private static final int[][] LINES = {{0}, {1, 0}, {2, 0}, {3, 0}, {4, 1, 0}, {5, 2, 0}, {6, 3, 0}};

    static final class Person {
        int kind;
        int m;
        int lot;
        int left;
        int at = -1;
        int lit;

        Person copy() {
            Person p = new Person();
            p.kind = kind;
            p.m = m;
            p.lot = lot;
            p.left = left;
            p.at = at;
            p.lit = lit;
            return p;
        }

        boolean dust() {
            return left == 0;
        }

        int drifts(int come, int day) {
            switch (kind) {
                case 0: return come;
                case 1: return come / 2;
                case 2: return come + 1;
                case 3: return day % 7 == 0 ? 0 : come;
                case 4: return 0;
                case 5: return day % 5 == 0 ? come + 1 + m : come + 1;
                default: return day % 7 == 0 || come == 0 ? 1 : come;
            }
        }

        int shines(int sun, int day) {
            switch (kind) {
                case 0: return sun;
                case 1: return 2 * sun;
                case 2: case 5: return m % 2 == 1 ? sun + 1 : sun;
                case 3: return 9 - sun;
                case 4: return sun < 2 ? 0 : 2 * sun - 3;
                default: return day % 2 == 1 ? 9 - sun + m : 9 - sun;
            }
        }

        int needs() {
            return new int[] {5, 8, 3, 0, 9, m, 2}[kind];
        }
    }

    static final class World {
        int[] sun = new int[16];
        int[] to = new int[16];
        List<Person> people = new ArrayList<>();
        int carts = 1;
        int sweep = 7;
        int glory;
        int day;
        int z = 1;
        String tape = "";
        String[] laws = new String[2];
        List<Integer> waits = new ArrayList<>();

        World copy() {
            World w = new World();
            w.sun = sun.clone();
            w.to = to.clone();
            for (Person p : people) {
                w.people.add(p.copy());
            }
            w.carts = carts;
            w.sweep = sweep;
            w.glory = glory;
            w.day = day;
            w.z = z;
            w.tape = tape;
            w.laws = laws.clone();
            w.waits = new ArrayList<>(waits);
            return w;
        }

        boolean content(int h) {
            Person p = people.get(h);
            return p.dust() && (p.at == p.lot || sun[p.at] >= p.needs());
        }

        int gives(int use, int a, int b, int c) {
            int v = laws[use] == null ? a : Model.worth(laws[use], use == 0 ? "cdp" : "lsd", a, b, c);
            return v < 0 ? 0 : Math.min(v, use == 0 ? 9 : 99);
        }

        World day() {
            int come = gives(0, carts, day % 24, (int) people.stream().filter(Person::dust).count());
            List<Person> others = new ArrayList<>();
            for (Person p : people) {
                if (p.dust()) {
                    for (int k = p.drifts(come, day); k > 0; k--) {
                        p.at = to[p.at];
                    }
                } else {
                    others.add(p);
                }
            }
            for (Person p : others) {
                p.left--;
                if (p.left == 0) {
                    p.at = p.lot;
                }
            }
            for (Person p : people) {
                if (p.dust()) {
                    int more = gives(1, p.shines(sun[p.at], day), sun[p.at], day % 24);
                    p.lit = Math.min(9999, p.lit + more);
                    glory = Math.min(99999, glory + more);
                }
            }
            day++;
            if (day % sweep == 0) {
                for (Person p : people) {
                    if (p.dust() && sun[p.at] == 0) {
                        p.at = p.lot;
                    }
                }
            }
            return this;
        }

        World days(int n) {
            for (int i = 0; i < n; i++) {
                day();
            }
            return this;
        }

        int draw() {
            z = z * 1103515245 + 12345;
            return z >>> 8;
        }
    }

    World now = new World();
    World kept;
    int images;
    int[][] sheets = new int[4][];
    int[] bits = new int[4];
    List<Integer> trace = new ArrayList<>();
    int[] errors = new int[6];

    Model() {
        Arrays.fill(now.sun, 3);
        for (int i = 0; i < 16; i++) {
            now.to[i] = i == 15 ? 0 : i + 1;
        }
    }

    // ---- texts, on their letters

    /** The FAULT of a text, by which letters may follow; -1: it is a TEXT. */
    static int fault(String t, String names) {
        Deque<Character> open = new ArrayDeque<>();
        Deque<Boolean> compared = new ArrayDeque<>();
        compared.push(false);
        boolean wanting = true;
        int digits = 0;
        for (int i = 0; i < t.length(); i++) {
            char c = t.charAt(i);
            boolean digit = c >= '0' && c <= '9';
            if (wanting) {
                if (c == '!' || c == '(') {
                    if (open.size() == 5) {
                        return i;
                    }
                    open.push(c);
                    if (c == '(') {
                        compared.push(false);
                    }
                    continue;
                }
                if (!digit && names.indexOf(c) < 0) {
                    return i;
                }
                wanting = false;
                digits = digit ? 1 : 0;
                shutNots(open);
            } else if (digit && digits > 0 && digits < 4) {
                digits++;
            } else if (c == ')' && !open.isEmpty()) {
                open.pop();
                compared.pop();
                shutNots(open);
                digits = 0;
            } else if ("<=>".indexOf(c) >= 0 && !compared.peek()) {
                compared.pop();
                compared.push(true);
                wanting = true;
            } else if ("+-*/%".indexOf(c) >= 0) {
                wanting = true;
            } else if ("|&".indexOf(c) >= 0) {
                compared.pop();
                compared.push(false);
                wanting = true;
            } else {
                return i;
            }
        }
        return wanting || !open.isEmpty() ? t.length() : -1;
    }

    private static void shutNots(Deque<Character> open) {
        while (!open.isEmpty() && open.peek() == '!') {
            open.pop();
        }
    }

    /** What a TEXT is worth: cut at the last joiner of the loosest sort that stands in no bracket. */
    static int worth(String t, String names, int... values) {
        for (String joiners : new String[] {"|", "&", "<=>", "+-", "*/%"}) {
            int deep = 0;
            for (int i = t.length() - 1; i > 0; i--) {
                char c = t.charAt(i);
                deep += c == ')' ? 1 : c == '(' ? -1 : 0;
                if (deep == 0 && joiners.indexOf(c) >= 0) {
                    return join(c, worth(t.substring(0, i), names, values), worth(t.substring(i + 1), names, values));
                }
            }
        }
        char c = t.charAt(0);
        if (c == '!') {
            return worth(t.substring(1), names, values) == 0 ? 1 : 0;
        }
        if (c == '(') {
            return worth(t.substring(1, t.length() - 1), names, values);
        }
        return names.indexOf(c) >= 0 ? values[names.indexOf(c)] : Integer.parseInt(t);
    }

    private static int join(char c, int x, int y) {
        boolean a = x != 0;
        boolean b = y != 0;
        switch (c) {
            case '|': return a | b ? 1 : 0;
            case '&': return a & b ? 1 : 0;
            case '<': return x < y ? 1 : 0;
            case '=': return x == y ? 1 : 0;
            case '>': return x > y ? 1 : 0;
            case '+': return x + y;
            case '-': return x - y;
            case '*': return x * y;
            case '/': return b ? (int) ((long) x / y) : 0;
            default: return b ? (int) ((long) x % y) : 0;
        }
    }

    // ---- what the calls share

    private int err(int e) {
        errors[-1000000000 - e]++;
        return e;
    }

    private static boolean in(int v, int lo, int hi) {
        return lo <= v && v <= hi;
    }

    private boolean noHeir(int h) {
        return !in(h, 0, now.people.size() - 1);
    }

    private boolean noSet(int set) {
        return set < 0 || set >> now.people.size() != 0;
    }

    private World with(Consumer<World> changed, int n) {
        World w = now.copy();
        changed.accept(w);
        return w.days(n);
    }

    private int firstDay(ToIntFunction<World> answer) {
        World w = now.copy();
        for (int n = 0; n <= 60; n++) {
            int a = answer.applyAsInt(w);
            if (a >= 0) {
                return a == Integer.MAX_VALUE ? n : a;
            }
            w.day();
        }
        return err(NONE);
    }

    // ---- the calls

    int sill(int s, int what, int v) {
        if (!in(s, 0, 15) || !in(what, 0, 1) || !in(v, 0, what == 0 ? 9 : 15)) return err(BEYOND);
        int[] row = what == 0 ? now.sun : now.to;
        int was = row[s];
        row[s] = v;
        return was;
    }

    int ofSill(int s, int what) {
        if (!in(s, 0, 15) || !in(what, 0, 3)) return err(BEYOND);
        if (what < 2) return what == 0 ? now.sun[s] : now.to[s];
        int set = 0;
        for (int h = 0; h < now.people.size(); h++) {
            Person p = now.people.get(h);
            if (what == 2 ? p.dust() && p.at == s : p.lot == s) set += 1 << h;
        }
        return set;
    }

    int town(int what, int v) {
        if (!in(what, 0, 2) || !in(v, what == 1 ? 1 : 0, new int[] {9, 30, 99999}[what])) return err(BEYOND);
        int was = what == 0 ? now.carts : what == 1 ? now.sweep : now.glory;
        if (what == 0) now.carts = v;
        if (what == 1) now.sweep = v;
        if (what == 2) now.glory = v;
        return was;
    }

    int heir(int km, int lot, int left) {
        if (!in(km, 0, 69) || !in(lot, 0, 15) || !in(left, 0, 99)) return err(BEYOND);
        if (now.people.size() == 8) return err(FULL);
        Person p = new Person();
        p.kind = km / 10;
        p.m = km % 10;
        p.lot = lot;
        p.left = left;
        p.at = left == 0 ? lot : -1;
        now.people.add(p);
        return now.people.size() - 1;
    }

    int ofHeir(int h, int what) {
        if (noHeir(h) || !in(what, 0, 9)) return err(BEYOND);
        Person p = now.people.get(h);
        int where = p.dust() ? p.at : p.lot;
        return new int[] {p.kind, p.m, p.lot, p.left, p.at, p.lit, p.drifts(now.carts, now.day),
            p.shines(now.sun[where], now.day), p.needs(), now.content(h) ? 1 : 0}[what];
    }

    int change(int h, int what, int v) {
        if (noHeir(h) || !in(what, 0, 3) || !in(v, 0, new int[] {15, 99, 15, 9999}[what])) return err(BEYOND);
        Person p = now.people.get(h);
        if (what == 2 && !p.dust()) return err(STATE);
        int was = new int[] {p.lot, p.left, p.at, p.lit}[what];
        if (what == 0) p.lot = v;
        if (what == 1) {
            p.left = v;
            p.at = v == 0 ? p.lot : -1;
        }
        if (what == 2) p.at = v;
        if (what == 3) p.lit = v;
        return was;
    }

    int become(int h, int km) {
        if (noHeir(h) || !in(km, 0, 69)) return err(BEYOND);
        Person p = now.people.get(h);
        int was = p.kind;
        p.kind = km / 10;
        p.m = km % 10;
        return was;
    }

    int as(int h, int kind) {
        if (noHeir(h) || !in(kind, 0, 6)) return err(BEYOND);
        Person p = now.people.get(h);
        return Arrays.stream(LINES[p.kind]).anyMatch(k -> k == kind) ? p.m : err(KIND);
    }

    int feed(long word, int n) {
        if (!in(n, 1, 8)) return err(BEYOND);
        if (now.tape.length() + n > 50) return err(FULL);
        for (int i = 0; i < n; i++) {
            now.tape += (char) (word & 255);
            word >>= 8;
        }
        return now.tape.length();
    }

    int text(int use) {
        if (!in(use, 0, 1)) return err(BEYOND);
        String t = now.tape;
        now.tape = "";
        int f = fault(t, use == 0 ? "cdp" : "lsd");
        if (f >= 0) return -10 - f;
        now.laws[use] = t;
        return 1;
    }

    int law(int use, int a, int b, int c) {
        return in(use, 0, 1) ? now.gives(use, a, b, c) : err(BEYOND);
    }

    int days(int n) {
        if (!in(n, 1, 60)) return err(BEYOND);
        if (now.day + n > 9999) return err(STATE);
        return now.days(n).glory;
    }

    int loose(int n) {
        if (!in(n, 1, 40)) return err(BEYOND);
        if (now.day + n > 9999) return err(STATE);
        for (int i = 0; i < n; i++) {
            now.carts = now.draw() % 6;
            int d = now.draw();
            if (d % 4 == 0) now.to[d / 4 % 16] = d / 64 % 16;
            now.day();
        }
        return now.glory;
    }

    int then(int n, int h) {
        if (!in(n, 0, 60) || noHeir(h)) return err(BEYOND);
        return with(w -> { }, n).people.get(h).at;
    }

    int first(int s, int what) {
        if (!in(s, 0, 15) || !in(what, 0, 1)) return err(BEYOND);
        return firstDay(w -> {
            for (int h = 0; h < w.people.size(); h++) {
                if (w.people.get(h).dust() && w.people.get(h).at == s) return what == 0 ? Integer.MAX_VALUE : h;
            }
            return -1;
        });
    }

    int meet(int a, int b) {
        if (noHeir(a) || noHeir(b) || a == b) return err(BEYOND);
        return firstDay(w -> {
            Person p = w.people.get(a);
            Person q = w.people.get(b);
            return p.dust() && q.dust() && p.at == q.at ? Integer.MAX_VALUE : -1;
        });
    }

    int bright(int h, int v) {
        if (noHeir(h) || !in(v, 0, 9999)) return err(BEYOND);
        return firstDay(w -> w.people.get(h).lit >= v ? Integer.MAX_VALUE : -1);
    }

    int place(int h, int n, int what) {
        if (noHeir(h) || !in(n, 0, 30) || !in(what, 0, 1)) return err(BEYOND);
        int[] lits = new int[16];
        for (int i = 0; i < 16; i++) {
            int s = i;
            lits[i] = with(w -> {
                Person p = w.people.get(h);
                p.lot = s;
                p.at = p.dust() ? s : -1;
            }, n).people.get(h).lit;
        }
        int most = Arrays.stream(lits).max().getAsInt();
        return what == 1 ? most : indexOf(lits, most);
    }

    private static int indexOf(int[] row, int v) {
        int i = 0;
        while (row[i] != v) {
            i++;
        }
        return i;
    }

    int cartsFor(int set, int n) {
        if (noSet(set) || !in(n, 0, 30)) return err(BEYOND);
        int best = -1;
        for (int i = 0; i < 10; i++) {
            int c = i;
            World then = with(w -> w.carts = c, n);
            boolean all = true;
            for (int h = 0; h < 8; h++) {
                all &= (set & 1 << h) == 0 || then.content(h);
            }
            best = all ? c : best;
        }
        return best < 0 ? err(NONE) : best;
    }

    int stop(int h, int n) {
        if (noHeir(h) || !in(n, 0, 20)) return err(BEYOND);
        int[] lits = new int[16];
        for (int i = 0; i < 16; i++) {
            int s = i;
            lits[i] = with(w -> w.to[s] = s, n).people.get(h).lit;
        }
        int most = Arrays.stream(lits).max().getAsInt();
        return most > with(w -> { }, n).people.get(h).lit ? indexOf(lits, most) : -1;
    }

    int swap(int n) {
        if (!in(n, 0, 20)) return err(BEYOND);
        int best = -1;
        int most = with(w -> { }, n).glory;
        for (int ab = 0; ab < 78; ab++) {
            int a = ab / 10;
            int b = ab % 10;
            if (a >= b || noHeir(b)) continue;
            int glory = with(w -> {
                w.people.get(a).lot = now.people.get(b).lot;
                w.people.get(b).lot = now.people.get(a).lot;
            }, n).glory;
            if (glory > most) {
                most = glory;
                best = ab;
            }
        }
        return best;
    }

    int sunFor(int s, int v, int n) {
        if (!in(s, 0, 15) || !in(v, 0, 9999) || !in(n, 0, 30)) return err(BEYOND);
        for (int i = 0; i < 10; i++) {
            int sun = i;
            if (with(w -> w.sun[s] = sun, n).glory >= now.glory + v) return sun;
        }
        return err(NONE);
    }

    int sweepFor(int h, int n) {
        if (noHeir(h) || !in(n, 0, 60)) return err(BEYOND);
        int[] lits = new int[31];
        lits[0] = -1;
        for (int i = 1; i <= 30; i++) {
            int s = i;
            lits[i] = with(w -> w.sweep = s, n).people.get(h).lit;
        }
        return indexOf(lits, Arrays.stream(lits).max().getAsInt());
    }

    int whence(int sh, int h, int what) {
        if (!in(sh, 0, 3) || noHeir(h) || !in(what, 0, 1)) return err(BEYOND);
        if (sheets[sh] == null) return err(NONE);
        List<Integer> so = new ArrayList<>();
        for (int ks = 0; ks < 616; ks++) {
            if (ks % 100 > 15) continue;
            World w = now.copy();
            Person p = w.people.get(h);
            p.kind = ks / 100;
            p.left = 0;
            p.at = ks % 100;
            boolean fits = true;
            for (int v : sheets[sh]) {
                w.day();
                fits &= p.at == v;
            }
            if (fits) so.add(ks);
        }
        return what == 0 ? so.size() : so.isEmpty() ? err(NONE) : so.get(0);
    }

    private int[] crowds(int n) {
        int[] crowds = new int[16];
        for (Person p : with(w -> { }, n).people) {
            if (p.dust()) crowds[p.at]++;
        }
        return crowds;
    }

    int bare(int n) {
        if (!in(n, 0, 60)) return err(BEYOND);
        int[] crowds = crowds(n);
        int set = 0;
        for (int s = 0; s < 16; s++) {
            set += crowds[s] == 0 ? 1 << s : 0;
        }
        return set;
    }

    int crowd(int n, int what) {
        if (!in(n, 0, 60) || !in(what, 0, 1)) return err(BEYOND);
        int[] crowds = crowds(n);
        int most = Arrays.stream(crowds).max().getAsInt();
        return what == 1 ? most : indexOf(crowds, most);
    }

    int light(int n) {
        return in(n, 0, 60) ? with(w -> { }, n).glory - now.glory : err(BEYOND);
    }

    int late(int set) {
        if (noSet(set)) return err(BEYOND);
        return firstDay(w -> {
            for (int h = 0; h < w.people.size(); h++) {
                if ((set & 1 << h) != 0 && !w.people.get(h).dust()) return -1;
            }
            return Integer.MAX_VALUE;
        });
    }

    int odds(int h, int n, int part) {
        if (noHeir(h) || !in(n, 0, 60) || !in(part, 0, 1)) return err(BEYOND);
        int good = 0;
        for (int i = 0; i < 10; i++) {
            int c = i;
            good += with(w -> w.carts = c, n).content(h) ? 1 : 0;
        }
        int[] above = {0, 1, 1, 3, 2, 1, 3, 7, 4, 9, 1};
        int[] below = {1, 10, 5, 10, 5, 2, 5, 10, 5, 10, 1};
        return part == 0 ? above[good] : below[good];
    }

    int seed(int v) {
        int was = now.z;
        now.z = v;
        return was;
    }

    int voice(int h, int act, int x) {
        if (noHeir(h) || !in(act, 0, 3)) return err(BEYOND);
        trace.clear();
        return speak(h, now.people.get(h).kind, act, x);
    }

    /** The BODY of an act, sought from a KIND on upward. */
    private int speak(int n, int from, int act, int x) {
        Person p = now.people.get(n);
        for (int k : LINES[from]) {
            int body = bodyOf(k, act);
            if (body == 0) continue;
            if (trace.size() < 40) trace.add(body);
            int above = LINES[k].length > 1 ? LINES[k][1] : -1;
            switch (body) {
                case 10: return x + n;
                case 11: return speak(n, p.kind, 0, x) * 2;
                case 12: return x - p.m;
                case 13: {
                    int shines = speak(n, p.kind, 1, x);
                    return shines ^ speak(n, p.kind, 2, x);
                }
                case 20: return speak(n, above, 0, x) * 3;
                case 30: {
                    int shines = speak(n, above, 1, x);
                    return shines - speak(n, p.kind, 2, 1);
                }
                case 40: return -speak(n, above, 2, x);
                case 50: {
                    int tells = speak(n, above, 3, x);
                    return tells - speak(n, p.kind, 0, 2);
                }
                case 60: return speak(n, above, 1, x + 1);
                case 70: return speak(n, above, 2, x) ^ n;
                default: {
                    int shines = speak(n, p.kind, 1, x);
                    return shines - speak(n, above, 3, x);
                }
            }
        }
        throw new IllegalStateException();
    }

    private static int bodyOf(int kind, int act) {
        return new int[][] {{10, 11, 12, 13}, {20, 0, 0, 0}, {0, 30, 0, 0}, {0, 0, 40, 0},
            {0, 0, 0, 50}, {0, 60, 0, 0}, {0, 0, 70, 71}}[kind][act];
    }

    int trace(int i) {
        return in(i, 0, trace.size() - 1) ? trace.get(i) : err(NONE);
    }

    int sheet(int sh, int b, int n) {
        if (!in(sh, 0, 3) || !List.of(0, 8, 16, 32).contains(b)) return err(BEYOND);
        if (b == 0) {
            sheets[sh] = null;
            return 1;
        }
        if (n < 0) return err(STATE);
        if (n > 40) return err(BEYOND);
        sheets[sh] = new int[n];
        bits[sh] = b;
        return 1;
    }

    int put(int sh, int i, int v) {
        if (!in(sh, 0, 3)) return err(BEYOND);
        if (sheets[sh] == null) return err(NONE);
        if (!in(i, 0, sheets[sh].length - 1)) return err(BEYOND);
        sheets[sh][i] = (int) (v & (1L << bits[sh]) - 1);
        return 1;
    }

    int move(int sh, int i, int other, int j, int n) {
        if (!in(sh, 0, 3) || !in(other, 0, 3)) return err(BEYOND);
        if (sheets[sh] == null || sheets[other] == null) return err(NONE);
        if (bits[sh] != bits[other]) return err(KIND);
        if (n < 0 || i < 0 || j < 0 || (long) i + n > sheets[sh].length || (long) j + n > sheets[other].length) {
            return err(BEYOND);
        }
        int[] were = sheets[sh].clone();
        for (int k = 0; k < n; k++) {
            sheets[other][j + k] = were[i + k];
        }
        return n;
    }

    int suns(int sh) {
        if (!in(sh, 0, 3)) return err(BEYOND);
        if (sheets[sh] == null) return err(NONE);
        int i = 0;
        while (i < 16 && i < sheets[sh].length && in(sheets[sh][i], 0, 9)) {
            now.sun[i] = sheets[sh][i];
            i++;
        }
        return i;
    }

    int judge(int sh) {
        if (!in(sh, 0, 3)) return err(BEYOND);
        if (sheets[sh] == null) return err(NONE);
        for (int i = 0; i < Math.max(sheets[sh].length, now.people.size()); i++) {
            if (i >= sheets[sh].length || i >= now.people.size() || sheets[sh][i] != now.people.get(i).lot) return i;
        }
        return -1;
    }

    int image() {
        kept = now.copy();
        return ++images;
    }

    int restore() {
        if (kept == null) return err(NONE);
        now = kept.copy();
        return now.day;
    }

    int tell(int v) {
        if (now.waits.size() == 20) return err(FULL);
        now.waits.add(v);
        return now.waits.size();
    }

    int check() {
        List<Integer> waits = now.waits;
        now.waits = new ArrayList<>();
        for (int i = 0; i < waits.size(); i++) {
            if (with(w -> { }, i + 1).glory != waits.get(i)) return 1 + i;
        }
        return 0;
    }

    int count(int what) {
        if (!in(what, 0, 10)) return err(BEYOND);
        return new int[] {now.people.size(), now.day, now.carts, now.sweep, now.glory,
            Arrays.stream(now.sun).sum(), now.people.stream().mapToInt(p -> p.lit).sum(),
            now.tape.length(), now.waits.size(), trace.size(), now.z}[what];
    }

    int told(int k) {
        return in(k, 1, 5) ? errors[k] : err(BEYOND);
    }
}
