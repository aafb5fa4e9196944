import java.util.Arrays;

/** Sills, heirs who are to be dust there, and the days ahead, as ../shared/DOC.md promises them. */
public final class DustSills {
    private static final int LOW = -1000000000;
    private static final int BEYOND = LOW - 1;
    private static final int NONE = LOW - 2;
    private static final int STATE = LOW - 3;
    private static final int FULL = LOW - 4;
    private static final int KIND = LOW - 5;
    private static final int ERRORS = 5;

    private static final int SILLS = 16;
    private static final int HEIRS = 8;
    private static final int KINDS = 7;
    private static final int SHEETS = 4;
    private static final int USES = 2;
    private static final int BYTES = 50;
    private static final int NUMBERS = 40;
    private static final int BODIES = 40;
    private static final int WAITERS = 20;
    private static final int AHEAD = 60;

    private static final int MOST_SUN = 9;
    private static final int MOST_CARTS = 9;
    private static final int MOST_SWEEP = 30;
    private static final int MOST_GLORY = 99999;
    private static final int MOST_DAY = 9999;
    private static final int MOST_LEFT = 99;
    private static final int MOST_LIT = 9999;

    /** For each KIND the one above it; HEIR has none. */
    private static final int[] ABOVE = {-1, 0, 0, 0, 1, 2, 3};

    private final Town now;
    private final Town thought;
    private final Town keptTown;
    private final Papers papers;
    private final Papers keptPapers;
    private final Speech speech;
    private final int[][] sheetNumbers;
    private final int[] sheetBits;
    private final int[] sheetSizes;
    private final int[] errors;
    private int images;

    public DustSills() {
        Heir[] kinds = {
            new Heir(), new Lord(), new Barber(), new Aunt(), new General(), new Clerk(), new Girl()
        };
        now = new Town(kinds);
        thought = new Town(kinds);
        keptTown = new Town(kinds);
        papers = new Papers();
        keptPapers = new Papers();
        speech = new Speech();
        sheetNumbers = new int[SHEETS][NUMBERS];
        sheetBits = new int[SHEETS];
        sheetSizes = new int[SHEETS];
        errors = new int[ERRORS + 1];
    }

    // ---- sills, the town

    public int sill(int sill, int what, int v) {
        if (!isSill(sill)) {
            return error(BEYOND);
        }
        if (what == 0 && within(v, 0, MOST_SUN)) {
            int was = now.sun[sill];
            now.sun[sill] = v;
            return was;
        }
        if (what == 1 && isSill(v)) {
            int was = now.to[sill];
            now.to[sill] = v;
            return was;
        }
        return error(BEYOND);
    }

    public int ofSill(int sill, int what) {
        if (!isSill(sill)) {
            return error(BEYOND);
        }
        switch (what) {
            case 0:
                return now.sun[sill];
            case 1:
                return now.to[sill];
            case 2:
                return now.dustAt(sill);
            case 3:
                return now.lotsOf(sill);
            default:
                return error(BEYOND);
        }
    }

    public int town(int what, int v) {
        int was;
        if (what == 0 && within(v, 0, MOST_CARTS)) {
            was = now.carts;
            now.carts = v;
        } else if (what == 1 && within(v, 1, MOST_SWEEP)) {
            was = now.sweep;
            now.sweep = v;
        } else if (what == 2 && within(v, 0, MOST_GLORY)) {
            was = now.glory;
            now.glory = v;
        } else {
            was = error(BEYOND);
        }
        return was;
    }

    // ---- heirs

    public int heir(int km, int lot, int left) {
        if (!isKindAndNumber(km) || !isSill(lot) || !within(left, 0, MOST_LEFT)) {
            return error(BEYOND);
        }
        if (now.heirs >= HEIRS) {
            return error(FULL);
        }
        return now.welcome(km, lot, left);
    }

    public int ofHeir(int heir, int what) {
        if (!isHeir(heir)) {
            return error(BEYOND);
        }
        switch (what) {
            case 0:
                return now.kind[heir];
            case 1:
                return now.mark[heir];
            case 2:
                return now.lot[heir];
            case 3:
                return now.left[heir];
            case 4:
                return now.at[heir];
            case 5:
                return now.lit[heir];
            case 6:
                return now.driftsOf(heir, now.carts);
            case 7:
                return now.shinesOf(heir, now.isDust(heir) ? now.at[heir] : now.lot[heir]);
            case 8:
                return now.needsOf(heir);
            case 9:
                return now.isContent(heir) ? 1 : 0;
            default:
                return error(BEYOND);
        }
    }

    public int change(int heir, int what, int v) {
        if (!isHeir(heir) || !isOfHeir(what, v)) {
            return error(BEYOND);
        }
        int was;
        if (what == 0) {
            was = now.lot[heir];
            now.lot[heir] = v;
        } else if (what == 1) {
            was = now.left[heir];
            now.setLeft(heir, v);
        } else if (what == 3) {
            was = now.lit[heir];
            now.lit[heir] = v;
        } else if (now.isDust(heir)) {
            was = now.at[heir];
            now.at[heir] = v;
        } else {
            was = error(STATE);
        }
        return was;
    }

    public int become(int heir, int km) {
        if (!isHeir(heir) || !isKindAndNumber(km)) {
            return error(BEYOND);
        }
        int was = now.kind[heir];
        now.kind[heir] = km / 10;
        now.mark[heir] = km % 10;
        return was;
    }

    public int as(int heir, int kind) {
        if (!isHeir(heir) || !within(kind, 0, KINDS - 1)) {
            return error(BEYOND);
        }
        return isOrIsUnder(now.kind[heir], kind) ? now.mark[heir] : error(KIND);
    }

    // ---- texts

    public int feed(long word, int n) {
        if (!within(n, 1, 8)) {
            return error(BEYOND);
        }
        if (papers.fed + n > BYTES) {
            return error(FULL);
        }
        for (int i = 0; i < n; i++) {
            papers.take((int) ((word >>> (8 * i)) & 255));
        }
        return papers.fed;
    }

    public int text(int use) {
        if (!within(use, 0, USES - 1)) {
            return error(BEYOND);
        }
        Law law = use == 0 ? papers.come : papers.shine;
        int fault = law.read(papers.tape, papers.fed);
        papers.fed = 0;
        return fault < 0 ? 1 : -10 - fault;
    }

    public int law(int use, int a, int b, int c) {
        if (!within(use, 0, USES - 1)) {
            return error(BEYOND);
        }
        return use == 0 ? papers.come.gives(a, b, c) : papers.shine.gives(a, b, c);
    }

    // ---- days

    public int days(int n) {
        if (!within(n, 1, AHEAD)) {
            return error(BEYOND);
        }
        if (now.day + n > MOST_DAY) {
            return error(STATE);
        }
        now.goDays(n, papers);
        return now.glory;
    }

    public int loose(int n) {
        if (!within(n, 1, 40)) {
            return error(BEYOND);
        }
        if (now.day + n > MOST_DAY) {
            return error(STATE);
        }
        for (int i = 0; i < n; i++) {
            now.carts = papers.draw() % 6;
            int drawn = papers.draw();
            if (drawn % 4 == 0) {
                now.to[drawn / 4 % SILLS] = drawn / 64 % SILLS;
            }
            now.goDay(papers);
        }
        return now.glory;
    }

    // ---- what would be

    public int then(int n, int heir) {
        if (!within(n, 0, AHEAD) || !isHeir(heir)) {
            return error(BEYOND);
        }
        think();
        thought.goDays(n, papers);
        return thought.at[heir];
    }

    public int first(int sill, int what) {
        if (!isSill(sill) || !within(what, 0, 1)) {
            return error(BEYOND);
        }
        think();
        for (int n = 0; n <= AHEAD; n++) {
            int there = thought.dustAt(sill);
            if (there != 0) {
                return what == 0 ? n : leastOf(there);
            }
            thought.goDay(papers);
        }
        return error(NONE);
    }

    public int meet(int one, int other) {
        if (!isHeir(one) || !isHeir(other) || one == other) {
            return error(BEYOND);
        }
        think();
        for (int n = 0; n <= AHEAD; n++) {
            if (thought.isDust(one) && thought.isDust(other) && thought.at[one] == thought.at[other]) {
                return n;
            }
            thought.goDay(papers);
        }
        return error(NONE);
    }

    public int bright(int heir, int v) {
        if (!isHeir(heir) || !within(v, 0, MOST_LIT)) {
            return error(BEYOND);
        }
        think();
        for (int n = 0; n <= AHEAD; n++) {
            if (thought.lit[heir] >= v) {
                return n;
            }
            thought.goDay(papers);
        }
        return error(NONE);
    }

    public int place(int heir, int n, int what) {
        if (!isHeir(heir) || !within(n, 0, 30) || !within(what, 0, 1)) {
            return error(BEYOND);
        }
        int best = 0;
        int most = -1;
        for (int sill = 0; sill < SILLS; sill++) {
            think();
            thought.lot[heir] = sill;
            if (thought.isDust(heir)) {
                thought.at[heir] = sill;
            }
            thought.goDays(n, papers);
            if (thought.lit[heir] > most) {
                most = thought.lit[heir];
                best = sill;
            }
        }
        return what == 0 ? best : most;
    }

    public int cartsFor(int heirs, int n) {
        if (!isSetOfHeirs(heirs) || !within(n, 0, 30)) {
            return error(BEYOND);
        }
        for (int carts = MOST_CARTS; carts >= 0; carts--) {
            think();
            thought.carts = carts;
            thought.goDays(n, papers);
            if (thought.areContent(heirs)) {
                return carts;
            }
        }
        return error(NONE);
    }

    public int stop(int heir, int n) {
        if (!isHeir(heir) || !within(n, 0, 20)) {
            return error(BEYOND);
        }
        think();
        thought.goDays(n, papers);
        int most = thought.lit[heir];
        int best = -1;
        for (int sill = 0; sill < SILLS; sill++) {
            think();
            thought.to[sill] = sill;
            thought.goDays(n, papers);
            if (thought.lit[heir] > most) {
                most = thought.lit[heir];
                best = sill;
            }
        }
        return best;
    }

    public int swap(int n) {
        if (!within(n, 0, 20)) {
            return error(BEYOND);
        }
        think();
        thought.goDays(n, papers);
        int most = thought.glory;
        int best = -1;
        for (int one = 0; one < now.heirs; one++) {
            for (int other = one + 1; other < now.heirs; other++) {
                think();
                thought.lot[one] = now.lot[other];
                thought.lot[other] = now.lot[one];
                thought.goDays(n, papers);
                if (thought.glory > most) {
                    most = thought.glory;
                    best = 10 * one + other;
                }
            }
        }
        return best;
    }

    public int sunFor(int sill, int v, int n) {
        if (!isSill(sill) || !within(v, 0, 9999) || !within(n, 0, 30)) {
            return error(BEYOND);
        }
        for (int sun = 0; sun <= MOST_SUN; sun++) {
            think();
            thought.sun[sill] = sun;
            thought.goDays(n, papers);
            if (thought.glory - now.glory >= v) {
                return sun;
            }
        }
        return error(NONE);
    }

    public int sweepFor(int heir, int n) {
        if (!isHeir(heir) || !within(n, 0, AHEAD)) {
            return error(BEYOND);
        }
        int best = 1;
        int most = -1;
        for (int sweep = 1; sweep <= MOST_SWEEP; sweep++) {
            think();
            thought.sweep = sweep;
            thought.goDays(n, papers);
            if (thought.lit[heir] > most) {
                most = thought.lit[heir];
                best = sweep;
            }
        }
        return best;
    }

    public int whence(int sheet, int heir, int what) {
        if (!isSheet(sheet) || !isHeir(heir) || !within(what, 0, 1)) {
            return error(BEYOND);
        }
        if (isMissing(sheet)) {
            return error(NONE);
        }
        int many = 0;
        int least = -1;
        for (int kind = 0; kind < KINDS; kind++) {
            for (int sill = 0; sill < SILLS; sill++) {
                think();
                thought.kind[heir] = kind;
                thought.left[heir] = 0;
                thought.at[heir] = sill;
                if (liesAsTold(heir, sheet)) {
                    many++;
                    least = least < 0 ? 100 * kind + sill : least;
                }
            }
        }
        if (what == 0) {
            return many;
        }
        return least < 0 ? error(NONE) : least;
    }

    public int bare(int n) {
        if (!within(n, 0, AHEAD)) {
            return error(BEYOND);
        }
        think();
        thought.goDays(n, papers);
        int set = 0;
        for (int sill = 0; sill < SILLS; sill++) {
            if (thought.dustAt(sill) == 0) {
                set |= 1 << sill;
            }
        }
        return set;
    }

    public int crowd(int n, int what) {
        if (!within(n, 0, AHEAD) || !within(what, 0, 1)) {
            return error(BEYOND);
        }
        think();
        thought.goDays(n, papers);
        int best = 0;
        int most = 0;
        for (int sill = 0; sill < SILLS; sill++) {
            int there = Integer.bitCount(thought.dustAt(sill));
            if (there > most) {
                most = there;
                best = sill;
            }
        }
        return what == 0 ? best : most;
    }

    public int light(int n) {
        if (!within(n, 0, AHEAD)) {
            return error(BEYOND);
        }
        think();
        thought.goDays(n, papers);
        return thought.glory - now.glory;
    }

    public int late(int heirs) {
        if (!isSetOfHeirs(heirs)) {
            return error(BEYOND);
        }
        think();
        for (int n = 0; n <= AHEAD; n++) {
            if ((heirs & ~thought.dust()) == 0) {
                return n;
            }
            thought.goDay(papers);
        }
        return error(NONE);
    }

    public int odds(int heir, int n, int part) {
        if (!isHeir(heir) || !within(n, 0, AHEAD) || !within(part, 0, 1)) {
            return error(BEYOND);
        }
        int all = MOST_CARTS + 1;
        int good = 0;
        for (int carts = 0; carts < all; carts++) {
            think();
            thought.carts = carts;
            thought.goDays(n, papers);
            if (thought.isContent(heir)) {
                good++;
            }
        }
        int shared = greatestDivisor(good, all);
        return (part == 0 ? good : all) / shared;
    }

    // ---- draws, voices, sheets, images, what is told

    public int seed(int v) {
        int was = papers.z;
        papers.z = v;
        return was;
    }

    public int voice(int heir, int act, int x) {
        if (!isHeir(heir) || !within(act, 0, 3)) {
            return error(BEYOND);
        }
        Heir kind = now.kindOf(heir);
        speech.open(heir, now.mark[heir]);
        switch (act) {
            case 0:
                return kind.lies(speech, x);
            case 1:
                return kind.shines(speech, x);
            case 2:
                return kind.drifts(speech, x);
            default:
                return kind.tells(speech, x);
        }
    }

    public int trace(int i) {
        return i >= 0 && i < speech.size ? speech.bodies[i] : error(NONE);
    }

    public int sheet(int sheet, int bits, int n) {
        if (!isSheet(sheet) || (bits != 0 && bits != 8 && bits != 16 && bits != 32)) {
            return error(BEYOND);
        }
        if (bits != 0 && n < 0) {
            return error(STATE);
        }
        if (bits != 0 && n > NUMBERS) {
            return error(BEYOND);
        }
        Arrays.fill(sheetNumbers[sheet], 0);
        sheetBits[sheet] = bits;
        sheetSizes[sheet] = bits == 0 ? 0 : n;
        return 1;
    }

    public int put(int sheet, int i, int v) {
        if (!isSheet(sheet)) {
            return error(BEYOND);
        }
        if (isMissing(sheet)) {
            return error(NONE);
        }
        if (!stand(sheet, i, 1)) {
            return error(BEYOND);
        }
        sheetNumbers[sheet][i] = lowestBits(sheetBits[sheet], v);
        return 1;
    }

    public int move(int sheet, int i, int other, int j, int n) {
        if (!isSheet(sheet) || !isSheet(other)) {
            return error(BEYOND);
        }
        if (isMissing(sheet) || isMissing(other)) {
            return error(NONE);
        }
        if (sheetBits[sheet] != sheetBits[other]) {
            return error(KIND);
        }
        if (!stand(sheet, i, n) || !stand(other, j, n)) {
            return error(BEYOND);
        }
        System.arraycopy(sheetNumbers[sheet], i, sheetNumbers[other], j, n);
        return n;
    }

    public int suns(int sheet) {
        if (!isSheet(sheet)) {
            return error(BEYOND);
        }
        if (isMissing(sheet)) {
            return error(NONE);
        }
        int end = Math.min(sheetSizes[sheet], SILLS);
        for (int i = 0; i < end; i++) {
            int v = sheetNumbers[sheet][i];
            if (!within(v, 0, MOST_SUN)) {
                return i;
            }
            now.sun[i] = v;
        }
        return end;
    }

    public int judge(int sheet) {
        if (!isSheet(sheet)) {
            return error(BEYOND);
        }
        if (isMissing(sheet)) {
            return error(NONE);
        }
        int end = Math.min(sheetSizes[sheet], now.heirs);
        for (int i = 0; i < end; i++) {
            if (sheetNumbers[sheet][i] != now.lot[i]) {
                return i;
            }
        }
        return sheetSizes[sheet] == now.heirs ? -1 : end;
    }

    public int image() {
        keptTown.copy(now);
        keptPapers.copy(papers);
        images++;
        return images;
    }

    public int restore() {
        if (images == 0) {
            return error(NONE);
        }
        now.copy(keptTown);
        papers.copy(keptPapers);
        return now.day;
    }

    public int tell(int v) {
        if (papers.waiting >= WAITERS) {
            return error(FULL);
        }
        papers.keepWaiting(v);
        return papers.waiting;
    }

    public int check() {
        int waiting = papers.waiting;
        papers.waiting = 0;
        think();
        for (int i = 0; i < waiting && i < WAITERS; i++) {
            thought.goDay(papers);
            if (thought.glory != papers.waits[i]) {
                return 1 + i;
            }
        }
        return 0;
    }

    public int count(int what) {
        switch (what) {
            case 0:
                return now.heirs;
            case 1:
                return now.day;
            case 2:
                return now.carts;
            case 3:
                return now.sweep;
            case 4:
                return now.glory;
            case 5:
                return sumOf(now.sun, SILLS);
            case 6:
                return sumOf(now.lit, now.heirs);
            case 7:
                return papers.fed;
            case 8:
                return papers.waiting;
            case 9:
                return speech.size;
            case 10:
                return papers.z;
            default:
                return error(BEYOND);
        }
    }

    public int told(int k) {
        return within(k, 1, ERRORS) ? errors[k] : error(BEYOND);
    }

    // ---- what the calls share

    private int error(int answer) {
        int k = LOW - answer;
        if (within(k, 1, ERRORS)) {
            errors[k]++;
        }
        return answer;
    }

    private void think() {
        thought.copy(now);
    }

    private boolean liesAsTold(int heir, int sheet) {
        for (int i = 0; i < sheetSizes[sheet] && i < NUMBERS; i++) {
            thought.goDay(papers);
            if (thought.at[heir] != sheetNumbers[sheet][i]) {
                return false;
            }
        }
        return true;
    }

    private boolean isHeir(int heir) {
        return heir >= 0 && heir < now.heirs && heir < HEIRS;
    }

    private boolean isSetOfHeirs(int set) {
        return set >= 0 && set < 1 << now.heirs;
    }

    private boolean isMissing(int sheet) {
        return sheetBits[sheet] == 0;
    }

    /** Whether n numbers stand from number i on; a difference, since i and n together may go round. */
    private boolean stand(int sheet, int i, int n) {
        return n >= 0 && i >= 0 && n <= sheetSizes[sheet] && i <= sheetSizes[sheet] - n;
    }

    private static int lowestBits(int bits, int v) {
        return bits == 8 ? (byte) v : bits == 16 ? (short) v : v;
    }

    private static boolean isOfHeir(int what, int v) {
        switch (what) {
            case 0:
            case 2:
                return isSill(v);
            case 1:
                return within(v, 0, MOST_LEFT);
            case 3:
                return within(v, 0, MOST_LIT);
            default:
                return false;
        }
    }

    private static boolean isSill(int sill) {
        return within(sill, 0, SILLS - 1);
    }

    private static boolean isSheet(int sheet) {
        return within(sheet, 0, SHEETS - 1);
    }

    private static boolean isKindAndNumber(int km) {
        return within(km, 0, 10 * KINDS - 1);
    }

    private static boolean within(int v, int least, int most) {
        return v >= least && v <= most;
    }

    private static boolean isOrIsUnder(int kind, int above) {
        int k = kind;
        for (int steps = 0; steps < KINDS && within(k, 0, KINDS - 1); steps++) {
            if (k == above) {
                return true;
            }
            k = ABOVE[k];
        }
        return false;
    }

    private static int leastOf(int set) {
        int h = 0;
        while (h < HEIRS && (set >> h & 1) == 0) {
            h++;
        }
        return h;
    }

    private static int greatestDivisor(int one, int other) {
        for (int d = other; d > 1; d--) {
            if (one % d == 0 && other % d == 0) {
                return d;
            }
        }
        return 1;
    }

    private static int sumOf(int[] row, int n) {
        int sum = 0;
        for (int i = 0; i < n && i < row.length; i++) {
            sum += row[i];
        }
        return sum;
    }

    /** What one of a KIND does; it holds nothing, so that all HEIRS of a KIND share one. */
    private static class Heir {
        int driftsBy(int come, int m, int day) {
            return come;
        }

        int shinesBy(int sun, int m, int day) {
            return sun;
        }

        int needsBy(int m) {
            return 5;
        }

        int lies(Speech s, int x) {
            s.begin(10);
            return x + s.n;
        }

        int shines(Speech s, int x) {
            s.begin(11);
            return lies(s, x) * 2;
        }

        int drifts(Speech s, int x) {
            s.begin(12);
            return x - s.m;
        }

        int tells(Speech s, int x) {
            s.begin(13);
            return shines(s, x) ^ drifts(s, x);
        }
    }

    private static class Lord extends Heir {
        int driftsBy(int come, int m, int day) {
            return come / 2;
        }

        int shinesBy(int sun, int m, int day) {
            return sun * 2;
        }

        int needsBy(int m) {
            return 8;
        }

        int lies(Speech s, int x) {
            s.begin(20);
            return super.lies(s, x) * 3;
        }
    }

    private static class Barber extends Heir {
        int driftsBy(int come, int m, int day) {
            return come + 1;
        }

        int shinesBy(int sun, int m, int day) {
            return sun + m % 2;
        }

        int needsBy(int m) {
            return 3;
        }

        int shines(Speech s, int x) {
            s.begin(30);
            return super.shines(s, x) - drifts(s, 1);
        }
    }

    private static class Aunt extends Heir {
        int driftsBy(int come, int m, int day) {
            return day % 7 == 0 ? 0 : come;
        }

        int shinesBy(int sun, int m, int day) {
            return MOST_SUN - sun;
        }

        int needsBy(int m) {
            return 0;
        }

        int drifts(Speech s, int x) {
            s.begin(40);
            return -super.drifts(s, x);
        }
    }

    private static final class General extends Lord {
        int driftsBy(int come, int m, int day) {
            return 0;
        }

        int shinesBy(int sun, int m, int day) {
            return Math.max(0, super.shinesBy(sun, m, day) - 3);
        }

        int needsBy(int m) {
            return 9;
        }

        int tells(Speech s, int x) {
            s.begin(50);
            return super.tells(s, x) - lies(s, 2);
        }
    }

    private static final class Clerk extends Barber {
        int driftsBy(int come, int m, int day) {
            return super.driftsBy(come, m, day) + (day % 5 == 0 ? m : 0);
        }

        int needsBy(int m) {
            return m;
        }

        int shines(Speech s, int x) {
            s.begin(60);
            return super.shines(s, x + 1);
        }
    }

    private static final class Girl extends Aunt {
        int driftsBy(int come, int m, int day) {
            return Math.max(1, super.driftsBy(come, m, day));
        }

        int shinesBy(int sun, int m, int day) {
            return super.shinesBy(sun, m, day) + (day % 2 == 0 ? 0 : m);
        }

        int needsBy(int m) {
            return super.needsBy(m) + 2;
        }

        int drifts(Speech s, int x) {
            s.begin(70);
            return super.drifts(s, x) ^ s.n;
        }

        int tells(Speech s, int x) {
            s.begin(71);
            return shines(s, x) - super.tells(s, x);
        }
    }

    /** Who speaks, and THE TRACE of it. */
    private static final class Speech {
        final int[] bodies = new int[BODIES];
        int size;
        int n;
        int m;

        void open(int number, int mark) {
            n = number;
            m = mark;
            size = 0;
        }

        void begin(int body) {
            if (size >= 0 && size < BODIES) {
                bodies[size] = body;
                size++;
            }
        }
    }

    /** All that a DAY changes: what is, what is thought and what is kept are each one of these. */
    private static final class Town {
        private final Heir[] kinds;
        final int[] sun = new int[SILLS];
        final int[] to = new int[SILLS];
        final int[] kind = new int[HEIRS];
        final int[] mark = new int[HEIRS];
        final int[] lot = new int[HEIRS];
        final int[] left = new int[HEIRS];
        final int[] at = new int[HEIRS];
        final int[] lit = new int[HEIRS];
        int heirs;
        int carts = 1;
        int sweep = 7;
        int glory;
        int day;

        Town(Heir[] kinds) {
            this.kinds = kinds;
            for (int i = 0; i < SILLS; i++) {
                sun[i] = 3;
                to[i] = (i + 1) % SILLS;
            }
        }

        void copy(Town other) {
            System.arraycopy(other.sun, 0, sun, 0, SILLS);
            System.arraycopy(other.to, 0, to, 0, SILLS);
            System.arraycopy(other.kind, 0, kind, 0, HEIRS);
            System.arraycopy(other.mark, 0, mark, 0, HEIRS);
            System.arraycopy(other.lot, 0, lot, 0, HEIRS);
            System.arraycopy(other.left, 0, left, 0, HEIRS);
            System.arraycopy(other.at, 0, at, 0, HEIRS);
            System.arraycopy(other.lit, 0, lit, 0, HEIRS);
            heirs = other.heirs;
            carts = other.carts;
            sweep = other.sweep;
            glory = other.glory;
            day = other.day;
        }

        /** The caller has seen that there is room for one more. */
        int welcome(int km, int itsLot, int daysLeft) {
            int h = heirs;
            if (h < 0 || h >= HEIRS) {
                return -1;
            }
            kind[h] = km / 10;
            mark[h] = km % 10;
            lot[h] = itsLot;
            lit[h] = 0;
            setLeft(h, daysLeft);
            heirs++;
            return h;
        }

        void setLeft(int h, int daysLeft) {
            left[h] = daysLeft;
            at[h] = daysLeft == 0 ? lot[h] : -1;
        }

        boolean isDust(int h) {
            return left[h] == 0;
        }

        Heir kindOf(int h) {
            int k = kind[h];
            return kinds[k >= 0 && k < kinds.length ? k : 0];
        }

        private int sunOf(int sill) {
            return sill >= 0 && sill < SILLS ? sun[sill] : 0;
        }

        int driftsOf(int h, int come) {
            return kindOf(h).driftsBy(come, mark[h], day);
        }

        int shinesOf(int h, int sill) {
            return kindOf(h).shinesBy(sunOf(sill), mark[h], day);
        }

        int needsOf(int h) {
            return kindOf(h).needsBy(mark[h]);
        }

        boolean isContent(int h) {
            return isDust(h) && (at[h] == lot[h] || sunOf(at[h]) >= needsOf(h));
        }

        boolean areContent(int set) {
            for (int h = 0; h < heirs; h++) {
                if ((set >> h & 1) == 1 && !isContent(h)) {
                    return false;
                }
            }
            return true;
        }

        int dust() {
            int set = 0;
            for (int h = 0; h < heirs; h++) {
                if (isDust(h)) {
                    set |= 1 << h;
                }
            }
            return set;
        }

        int dustAt(int sill) {
            int set = 0;
            for (int h = 0; h < heirs; h++) {
                if (isDust(h) && at[h] == sill) {
                    set |= 1 << h;
                }
            }
            return set;
        }

        int lotsOf(int sill) {
            int set = 0;
            for (int h = 0; h < heirs; h++) {
                if (lot[h] == sill) {
                    set |= 1 << h;
                }
            }
            return set;
        }

        void goDays(int n, Papers papers) {
            for (int i = 0; i < n; i++) {
                goDay(papers);
            }
        }

        void goDay(Papers papers) {
            carry(papers.come.gives(carts, day % 24, Integer.bitCount(dust())));
            shine(papers.shine);
            day++;
            if (sweep > 0 && day % sweep == 0) {
                sweepUp();
            }
        }

        /** One turn serves for both who drifts and who waits: no HEIR looks at another here. */
        private void carry(int come) {
            for (int h = 0; h < heirs; h++) {
                if (isDust(h)) {
                    drift(h, driftsOf(h, come));
                } else {
                    setLeft(h, left[h] - 1);
                }
            }
        }

        private void drift(int h, int times) {
            int sill = at[h];
            for (int i = 0; i < times && sill >= 0 && sill < SILLS; i++) {
                sill = to[sill];
            }
            at[h] = sill;
        }

        private void shine(Law law) {
            for (int h = 0; h < heirs; h++) {
                if (isDust(h)) {
                    int more = law.gives(shinesOf(h, at[h]), sunOf(at[h]), day % 24);
                    lit[h] = Math.min(MOST_LIT, lit[h] + more);
                    glory = Math.min(MOST_GLORY, glory + more);
                }
            }
        }

        private void sweepUp() {
            for (int h = 0; h < heirs; h++) {
                if (isDust(h) && sunOf(at[h]) == 0) {
                    at[h] = lot[h];
                }
            }
        }
    }

    /** What an IMAGE keeps beside the town. */
    private static final class Papers {
        final int[] tape = new int[BYTES];
        final int[] waits = new int[WAITERS];
        final Law come = new Law("cdp", 9);
        final Law shine = new Law("lsd", 99);
        int fed;
        int waiting;
        int z = 1;

        void copy(Papers other) {
            System.arraycopy(other.tape, 0, tape, 0, BYTES);
            System.arraycopy(other.waits, 0, waits, 0, WAITERS);
            come.copy(other.come);
            shine.copy(other.shine);
            fed = other.fed;
            waiting = other.waiting;
            z = other.z;
        }

        void take(int sign) {
            if (fed >= 0 && fed < BYTES) {
                tape[fed] = sign;
                fed++;
            }
        }

        void keepWaiting(int v) {
            if (waiting >= 0 && waiting < WAITERS) {
                waits[waiting] = v;
                waiting++;
            }
        }

        int draw() {
            z = z * 1103515245 + 12345;
            return z >>> 8;
        }
    }

    /**
     * The TEXT of a USE, in the order in which it is worked out: a NUMBER is NUMBER_BASE and itself,
     * a NAME is its place among the NAMES, all else is the sign that works on what came ahead.
     */
    private static final class Law {
        private static final int NUMBER_BASE = 256;
        private static final int MOST_OPEN = 5;
        private static final int MOST_DIGITS = 4;
        private static final int LEVELS = 5;
        /** The level of S < S, which alone does not go on once it has two sides. */
        private static final int COMPARING = 2;

        private final String names;
        private final int most;
        private final int[] code = new int[BYTES];
        private int size;
        private final int[] stack = new int[BYTES];
        /** What is being read stands apart from code, for a FAULT leaves the TEXT ahead. */
        private final int[] draft = new int[BYTES];
        private int drafted;
        private int place;
        private boolean faulty;

        Law(String names, int most) {
            this.names = names;
            this.most = most;
        }

        void copy(Law other) {
            take(other.code, other.size);
        }

        private void take(int[] newCode, int newSize) {
            size = Math.max(0, Math.min(newSize, BYTES));
            System.arraycopy(newCode, 0, code, 0, size);
        }

        /** Held without a TEXT, too: the document does not tell that law() answers any number. */
        int gives(int a, int b, int c) {
            int v = size == 0 ? a : workedOut(a, b, c);
            return Math.max(0, Math.min(most, v));
        }

        private int workedOut(int a, int b, int c) {
            int high = 0;
            for (int i = 0; i < size; i++) {
                int sign = code[i];
                if (sign >= NUMBER_BASE || sign <= 2) {
                    if (high < BYTES) {
                        stack[high] = valueOf(sign, a, b, c);
                        high++;
                    }
                } else if (sign == '!') {
                    if (high > 0) {
                        stack[high - 1] = stack[high - 1] == 0 ? 1 : 0;
                    }
                } else if (high > 1) {
                    high--;
                    stack[high - 1] = joined(sign, stack[high - 1], stack[high]);
                }
            }
            return stack[0];
        }

        private static int valueOf(int sign, int a, int b, int c) {
            if (sign >= NUMBER_BASE) {
                return sign - NUMBER_BASE;
            }
            return sign == 0 ? a : sign == 1 ? b : c;
        }

        private static int joined(int sign, int x, int y) {
            switch (sign) {
                case '|':
                    return x != 0 || y != 0 ? 1 : 0;
                case '&':
                    return x != 0 && y != 0 ? 1 : 0;
                case '<':
                    return x < y ? 1 : 0;
                case '=':
                    return x == y ? 1 : 0;
                case '>':
                    return x > y ? 1 : 0;
                case '+':
                    return x + y;
                case '-':
                    return x - y;
                case '*':
                    return x * y;
                case '/':
                    return y == 0 ? 0 : x / y;
                default:
                    return y == 0 ? 0 : x % y;
            }
        }

        /** The FAULT; -1: there is none, and this is the TEXT now. */
        int read(int[] tape, int fed) {
            place = 0;
            drafted = 0;
            faulty = false;
            int length = Math.min(fed, tape.length);
            readLevel(tape, length, 0, 0);
            if (faulty || place < length) {
                return place;
            }
            take(draft, drafted);
            return -1;
        }

        /** Levels 0 to 4 are T, A, B, S and P, each with its joiners; beneath them is Q. */
        private void readLevel(int[] tape, int length, int level, int open) {
            if (level >= LEVELS) {
                readPart(tape, length, open);
                return;
            }
            readLevel(tape, length, level + 1, open);
            int joiners = level == COMPARING ? 1 : BYTES;
            for (int i = 0; i < joiners && !faulty; i++) {
                int sign = signAt(tape, length, place);
                if (levelOf(sign) != level) {
                    return;
                }
                place++;
                readLevel(tape, length, level + 1, open);
                write(sign);
            }
        }

        private void readPart(int[] tape, int length, int open) {
            int sign = signAt(tape, length, place);
            int name = sign < 0 ? -1 : names.indexOf((char) sign);
            if (isDigit(sign)) {
                readNumber(tape, length);
            } else if (name >= 0) {
                place++;
                write(name);
            } else if (sign == '!' && open < MOST_OPEN) {
                place++;
                readPart(tape, length, open + 1);
                write(sign);
            } else if (sign == '(' && open < MOST_OPEN) {
                place++;
                readLevel(tape, length, 0, open + 1);
                readClosing(tape, length);
            } else {
                faulty = true;
            }
        }

        private void readClosing(int[] tape, int length) {
            if (!faulty && signAt(tape, length, place) == ')') {
                place++;
            } else {
                faulty = true;
            }
        }

        private void readNumber(int[] tape, int length) {
            int v = 0;
            for (int i = 0; i < MOST_DIGITS && isDigit(signAt(tape, length, place)); i++) {
                v = 10 * v + signAt(tape, length, place) - '0';
                place++;
            }
            write(NUMBER_BASE + v);
        }

        private void write(int sign) {
            if (drafted < BYTES) {
                draft[drafted] = sign;
                drafted++;
            }
        }

        /** The byte at a place; -1: there is none. */
        private static int signAt(int[] tape, int length, int place) {
            return place >= 0 && place < length ? tape[place] : -1;
        }

        private static boolean isDigit(int sign) {
            return sign >= '0' && sign <= '9';
        }

        private static int levelOf(int sign) {
            switch (sign) {
                case '|':
                    return 0;
                case '&':
                    return 1;
                case '<':
                case '=':
                case '>':
                    return COMPARING;
                case '+':
                case '-':
                    return 3;
                case '*':
                case '/':
                case '%':
                    return 4;
                default:
                    return -1;
            }
        }
    }
}
