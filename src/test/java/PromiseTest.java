/** For each promise of ../shared/DOC.md, answers worked out by hand from its words. */
public final class PromiseTest extends Hands {
    // ---- sills, the town

    private static void aNewObject() {
        promise(1);
        DustSills x = new DustSills();
        row("count", counts(x), 0, 0, 1, 7, 0, 48, 0, 0, 0, 0, 1);
        row("told", errors(x), 0, 0, 0, 0, 0);
        for (int s = 0; s < 16; s++) {
            due("ofSill(s, 0)", x.ofSill(s, 0), 3);
            due("ofSill(s, 1)", x.ofSill(s, 1), s == 15 ? 0 : s + 1);
            due("ofSill(s, 2)", x.ofSill(s, 2), 0);
            due("ofSill(s, 3)", x.ofSill(s, 3), 0);
        }
        due("law(0, 7, 5, 5)", x.law(0, 7, 5, 5), 7);
        due("law(1, 77, 5, 5)", x.law(1, 77, 5, 5), 77);
        due("restore()", x.restore(), NONE);
        due("trace(0)", x.trace(0), NONE);
        for (int i = 0; i < 4; i++) {
            due("judge(i)", x.judge(i), NONE);
        }
        due("check()", x.check(), 0);
        due("ofHeir(0, 0)", x.ofHeir(0, 0), BEYOND);
    }

    private static void sill() {
        promise(2);
        DustSills x = new DustSills();
        due("sill(0, 0, 9)", x.sill(0, 0, 9), 3);
        due("sill(0, 0, 0)", x.sill(0, 0, 0), 9);
        due("sill(15, 0, 5)", x.sill(15, 0, 5), 3);
        due("sill(15, 1, 15)", x.sill(15, 1, 15), 0);
        due("sill(15, 1, 0)", x.sill(15, 1, 0), 15);
        due("sill(4, 1, 4)", x.sill(4, 1, 4), 5);
        due("sill(-1, 0, 1)", x.sill(-1, 0, 1), BEYOND);
        due("sill(16, 0, 1)", x.sill(16, 0, 1), BEYOND);
        due("sill(MIN, 1, 1)", x.sill(MIN, 1, 1), BEYOND);
        due("sill(1, -1, 1)", x.sill(1, -1, 1), BEYOND);
        due("sill(1, 2, 1)", x.sill(1, 2, 1), BEYOND);
        due("sill(1, 0, -1)", x.sill(1, 0, -1), BEYOND);
        due("sill(1, 0, 10)", x.sill(1, 0, 10), BEYOND);
        due("sill(1, 1, -1)", x.sill(1, 1, -1), BEYOND);
        due("sill(1, 1, 16)", x.sill(1, 1, 16), BEYOND);
        due("ofSill(1, 0)", x.ofSill(1, 0), 3);
        due("ofSill(1, 1)", x.ofSill(1, 1), 2);
        due("ofSill(0, 0)", x.ofSill(0, 0), 0);
        due("ofSill(4, 1)", x.ofSill(4, 1), 4);
        row("told", errors(x), 9, 0, 0, 0, 0);
    }

    private static void ofSill() {
        promise(3);
        DustSills x = new DustSills();
        x.heir(0, 2, 0);
        x.heir(0, 2, 1);
        x.heir(0, 5, 0);
        due("ofSill(2, 2)", x.ofSill(2, 2), 1);
        due("ofSill(2, 3)", x.ofSill(2, 3), 3);
        due("ofSill(5, 2)", x.ofSill(5, 2), 4);
        due("ofSill(5, 3)", x.ofSill(5, 3), 4);
        x.change(0, 2, 5);
        due("ofSill(5, 2) of two", x.ofSill(5, 2), 5);
        due("ofSill(2, 2) of none", x.ofSill(2, 2), 0);
        due("ofSill(2, 3) still", x.ofSill(2, 3), 3);
        due("ofSill(-1, 0)", x.ofSill(-1, 0), BEYOND);
        due("ofSill(16, 0)", x.ofSill(16, 0), BEYOND);
        due("ofSill(0, -1)", x.ofSill(0, -1), BEYOND);
        due("ofSill(0, 4)", x.ofSill(0, 4), BEYOND);
    }

    private static void town() {
        promise(4);
        DustSills x = new DustSills();
        due("town(0, 9)", x.town(0, 9), 1);
        due("town(0, 0)", x.town(0, 0), 9);
        due("town(1, 30)", x.town(1, 30), 7);
        due("town(1, 1)", x.town(1, 1), 30);
        due("town(2, 99999)", x.town(2, 99999), 0);
        due("town(2, 0)", x.town(2, 0), 99999);
        due("town(2, 12)", x.town(2, 12), 0);
        due("town(0, 10)", x.town(0, 10), BEYOND);
        due("town(0, -1)", x.town(0, -1), BEYOND);
        due("town(1, 0)", x.town(1, 0), BEYOND);
        due("town(1, 31)", x.town(1, 31), BEYOND);
        due("town(2, -1)", x.town(2, -1), BEYOND);
        due("town(2, 100000)", x.town(2, 100000), BEYOND);
        due("town(-1, 1)", x.town(-1, 1), BEYOND);
        due("town(3, 1)", x.town(3, 1), BEYOND);
        row("count", counts(x), 0, 0, 0, 1, 12);
    }

    // ---- heirs

    private static void heir() {
        promise(5);
        DustSills x = new DustSills();
        due("heir(70, 0, 0)", x.heir(70, 0, 0), BEYOND);
        due("heir(-1, 0, 0)", x.heir(-1, 0, 0), BEYOND);
        due("heir(0, -1, 0)", x.heir(0, -1, 0), BEYOND);
        due("heir(0, 16, 0)", x.heir(0, 16, 0), BEYOND);
        due("heir(0, 0, -1)", x.heir(0, 0, -1), BEYOND);
        due("heir(0, 0, 100)", x.heir(0, 0, 100), BEYOND);
        due("count(0)", x.count(0), 0);
        due("heir(69, 15, 99)", x.heir(69, 15, 99), 0);
        due("heir(0, 3, 0)", x.heir(0, 3, 0), 1);
        row("of heir 0", new int[] {x.ofHeir(0, 0), x.ofHeir(0, 1), x.ofHeir(0, 2), x.ofHeir(0, 3), x.ofHeir(0, 4),
            x.ofHeir(0, 5)}, 6, 9, 15, 99, -1, 0);
        row("of heir 1", new int[] {x.ofHeir(1, 0), x.ofHeir(1, 1), x.ofHeir(1, 2), x.ofHeir(1, 3), x.ofHeir(1, 4),
            x.ofHeir(1, 5)}, 0, 0, 3, 0, 3, 0);
        for (int i = 2; i < 8; i++) {
            due("heir(i, 3, 0)", x.heir(i, 3, 0), i);
        }
        due("heir(0, 3, 0) too many", x.heir(0, 3, 0), FULL);
        due("heir(70, 3, 0) too many", x.heir(70, 3, 0), BEYOND);
        due("heir(0, 3, 100) too many", x.heir(0, 3, 100), BEYOND);
        due("count(0)", x.count(0), 8);
        row("told", errors(x), 8, 0, 0, 1, 0);
    }

    private static void ofHeir() {
        promise(6);
        DustSills x = allKinds(3, 4, 99);
        x.sill(4, 0, 4);
        x.town(0, 5);
        row("KIND", ofHeirs(x, 0), 0, 1, 2, 3, 4, 5, 6);
        row("m", ofHeirs(x, 1), 3, 3, 3, 3, 3, 3, 3);
        row("AT", ofHeirs(x, 4), -1, -1, -1, -1, -1, -1, -1);
        row("DRIFTS, DAY 0", ofHeirs(x, 6), 5, 2, 6, 0, 0, 9, 1);
        row("SHINES, DAY 0", ofHeirs(x, 7), 4, 8, 5, 5, 5, 5, 5);
        row("NEEDS", ofHeirs(x, 8), 5, 8, 3, 0, 9, 3, 2);
        row("CONTENT, no DUST", ofHeirs(x, 9), 0, 0, 0, 0, 0, 0, 0);
        x.days(1);
        row("DRIFTS, DAY 1", ofHeirs(x, 6), 5, 2, 6, 5, 0, 6, 5);
        row("SHINES, DAY 1", ofHeirs(x, 7), 4, 8, 5, 5, 5, 5, 8);
        x.town(0, 0);
        row("DRIFTS by 0", ofHeirs(x, 6), 0, 0, 1, 0, 0, 1, 1);
        x.days(4);
        row("DRIFTS by 0, DAY 5", ofHeirs(x, 6), 0, 0, 1, 0, 0, 4, 1);
        x.town(0, 9);
        x.days(2);
        row("DRIFTS by 9, DAY 7", ofHeirs(x, 6), 9, 4, 10, 0, 0, 10, 1);
        row("SHINES, DAY 7", ofHeirs(x, 7), 4, 8, 5, 5, 5, 5, 8);
        x.sill(4, 0, 1);
        row("SHINES, SUN 1", ofHeirs(x, 7), 1, 2, 2, 8, 0, 2, 11);
        x.become(2, 22);
        x.become(5, 58);
        row("SHINES, m even", new int[] {x.ofHeir(2, 7), x.ofHeir(5, 7), x.ofHeir(5, 8)}, 1, 1, 8);
        contentOnes();
        due("ofHeir(-1, 0)", x.ofHeir(-1, 0), BEYOND);
        due("ofHeir(7, 0)", x.ofHeir(7, 0), BEYOND);
        due("ofHeir(0, -1)", x.ofHeir(0, -1), BEYOND);
        due("ofHeir(0, 10)", x.ofHeir(0, 10), BEYOND);
    }

    private static void contentOnes() {
        DustSills x = allKinds(3, 0, 0);
        lay(x, 0, 2, 3, 5, 8, 9, 1);
        row("CONTENT, AT LOT", ofHeirs(x, 9), 1, 1, 1, 1, 1, 1, 1);
        int[][] want = {{0, 0, 0, 1, 0, 0, 1}, {0, 0, 1, 1, 0, 1, 1}, {1, 0, 1, 1, 0, 1, 1}, {1, 1, 1, 1, 0, 1, 1},
            {1, 1, 1, 1, 1, 1, 1}, {0, 0, 0, 1, 0, 0, 0}};
        for (int s = 1; s <= 6; s++) {
            for (int h = 0; h < 7; h++) {
                x.change(h, 2, s);
            }
            row("CONTENT, AT " + s, ofHeirs(x, 9), want[s - 1]);
        }
        due("SHINES by SUN of AT", x.ofHeir(0, 7), 1);
    }

    private static void change() {
        promise(7);
        DustSills x = one(0, 4, 0);
        due("change(0, 0, 15)", x.change(0, 0, 15), 4);
        due("AT stays", x.ofHeir(0, 4), 4);
        due("change(0, 2, 9)", x.change(0, 2, 9), 4);
        due("change(0, 1, 99)", x.change(0, 1, 99), 0);
        due("no DUST", x.ofHeir(0, 4), -1);
        due("change(0, 2, 3) of no DUST", x.change(0, 2, 3), STATE);
        due("change(0, 2, 16) of no DUST", x.change(0, 2, 16), BEYOND);
        due("change(0, 1, 0)", x.change(0, 1, 0), 99);
        due("AT its LOT", x.ofHeir(0, 4), 15);
        x.change(0, 2, 3);
        due("change(0, 1, 0), told DUST anew", x.change(0, 1, 0), 0);
        due("AT its LOT anew", x.ofHeir(0, 4), 15);
        due("change(0, 3, 9999)", x.change(0, 3, 9999), 0);
        due("change(0, 3, 0)", x.change(0, 3, 0), 9999);
        due("change(0, 3, 7)", x.change(0, 3, 7), 0);
        int[][] off = {{1, 0, 0}, {-1, 0, 0}, {0, -1, 0}, {0, 4, 0}, {0, 0, -1}, {0, 0, 16}, {0, 1, -1}, {0, 1, 100},
            {0, 2, -1}, {0, 2, 16}, {0, 3, -1}, {0, 3, 10000}};
        for (int[] o : off) {
            due("change(" + o[0] + ", " + o[1] + ", " + o[2] + ")", x.change(o[0], o[1], o[2]), BEYOND);
        }
        row("of it", new int[] {x.ofHeir(0, 2), x.ofHeir(0, 3), x.ofHeir(0, 4), x.ofHeir(0, 5)}, 15, 0, 15, 7);
        row("told", errors(x), 13, 0, 1, 0, 0);
    }

    private static void become() {
        promise(8);
        DustSills x = one(35, 4, 0);
        x.change(0, 2, 6);
        due("become(0, 69)", x.become(0, 69), 3);
        row("of it", new int[] {x.ofHeir(0, 0), x.ofHeir(0, 1), x.ofHeir(0, 2), x.ofHeir(0, 4)}, 6, 9, 4, 6);
        due("become(0, 0)", x.become(0, 0), 6);
        due("become(0, 70)", x.become(0, 70), BEYOND);
        due("become(0, -1)", x.become(0, -1), BEYOND);
        due("become(1, 0)", x.become(1, 0), BEYOND);
        due("become(-1, 0)", x.become(-1, 0), BEYOND);
        due("KIND", x.ofHeir(0, 0), 0);
    }

    private static void as() {
        promise(9);
        DustSills x = allKinds(4, 0, 0);
        int[][] kinds = {{0}, {0, 1}, {0, 2}, {0, 3}, {0, 1, 4}, {0, 2, 5}, {0, 3, 6}};
        for (int h = 0; h < 7; h++) {
            for (int k = 0; k < 7; k++) {
                boolean is = false;
                for (int own : kinds[h]) {
                    is |= own == k;
                }
                due("as(" + h + ", " + k + ")", x.as(h, k), is ? 4 : KIND);
            }
        }
        due("as(7, 0)", x.as(7, 0), BEYOND);
        due("as(-1, 0)", x.as(-1, 0), BEYOND);
        due("as(0, 7)", x.as(0, 7), BEYOND);
        due("as(0, -1)", x.as(0, -1), BEYOND);
        row("told", errors(x), 4, 0, 0, 0, 33);
    }

    // ---- texts

    private static void feed() {
        promise(10);
        DustSills x = new DustSills();
        due("feed(.., 0)", x.feed(65, 0), BEYOND);
        due("feed(.., 9)", x.feed(65, 9), BEYOND);
        due("feed(.., -1)", x.feed(65, -1), BEYOND);
        due("feed(.., 8)", x.feed(-1L, 8), 8);
        for (int i = 2; i <= 6; i++) {
            due("feed(.., 8)", x.feed(0x3030303030303030L, 8), 8 * i);
        }
        due("feed(.., 3) of 48", x.feed(0, 3), FULL);
        due("feed(.., 9) of 48", x.feed(0, 9), BEYOND);
        due("count(7)", x.count(7), 48);
        due("feed(.., 2) of 48", x.feed(0, 2), 50);
        due("feed(.., 1) of 50", x.feed(0, 1), FULL);
        due("count(7)", x.count(7), 50);
        due("bytes of 255 are no TEXT", x.text(0), -10);
        due("feed(c*2.., 3), the lowest first", x.feed(0x7f322a63L, 3), 3);
        due("text(0)", x.text(0), 1);
        due("law(0, 3, 0, 0)", x.law(0, 3, 0, 0), 6);
        row("told", errors(x), 4, 0, 0, 2, 0);
    }

    private static void text() {
        promise(11);
        DustSills x = new DustSills();
        due("text(0) of nothing", x.text(0), -10);
        Object[][] faults = {{"c+", -12}, {"c<d<p", -13}, {"c<d=p", -13}, {"c<d|p>c", 1}, {"c<d&p>c|d=0", 1}, {"l", -10},
            {"s", -10}, {"12345", -14}, {"1234", 1}, {"0000", 1}, {"!!!!!c", 1}, {"!!!!!!c", -15}, {"((((((c", -15},
            {"(((((c)))))", 1}, {"!(!(!c))", 1}, {"!(!(!(c)))", -15}, {"!!!!!c+!!!!!d", 1}, {"(!!!!c)+!c", 1},
            {"(!!!!!c)", -15}, {"(c", -12}, {"(c))", -13}, {"c)", -11}, {"()", -11}, {"c d", -11}, {" c", -10},
            {"cd", -11}, {"3c", -11}, {"c3", -11}, {"c!d", -11}, {"c!", -11}, {"-c", -10}, {"c--d", -12}, {"c*/d", -12},
            {"!", -11}, {"(", -11}, {"c(", -11}, {"(c<d)<p", 1}, {"(c<d<p)", -14}, {"c|", -12}, {"c||d", -12},
            {"!c<!d", 1}, {"c%d%p", 1}, {"(c|d)&(p|c&d)", 1}, {"C", -10}};
        for (Object[] f : faults) {
            due("text of " + f[0], write(x, 0, (String) f[0]), (Integer) f[1]);
            due("THE TAPE is empty", x.count(7), 0);
        }
        row("no ERRORS", errors(x), 0, 0, 0, 0, 0);
        due("text l for 1", write(x, 1, "l+s*d"), 1);
        due("text c for 1", write(x, 1, "c"), -10);
        due("text p for 1", write(x, 1, "l+p"), -12);
        due("the one ahead stays", x.law(1, 1, 2, 3), 7);
        x.feed('s', 1);
        due("text(-1)", x.text(-1), BEYOND);
        due("text(2)", x.text(2), BEYOND);
        due("THE TAPE stays", x.count(7), 1);
        due("text(1)", x.text(1), 1);
        due("in place of the one ahead", x.law(1, 1, 2, 3), 2);
        due("a TEXT of 50", write(x, 1, "1+1+1+1+1+1+1+1+1+1+1+1+1+1+1+1+1+1+1+1+1+1+1+1+10"), 1);
        due("law of it", x.law(1, 0, 0, 0), 34);
    }

    private static void law() {
        promise(12);
        DustSills x = new DustSills();
        due("held without a TEXT", x.law(0, 10, 0, 0), 9);
        due("held without a TEXT", x.law(0, -1, 0, 0), 0);
        due("held without a TEXT", x.law(1, 100, 0, 0), 99);
        due("held without a TEXT", x.law(1, MIN, 0, 0), 0);
        due("law(-1, ..)", x.law(-1, 0, 0, 0), BEYOND);
        due("law(2, ..)", x.law(2, 0, 0, 0), BEYOND);
        Object[][] worth = {{"l", 7}, {"s", 3}, {"d", 2}, {"l+s*d", 13}, {"(l+s)*d", 20}, {"l-s-d", 2}, {"l/s/d", 1},
            {"l/d*s", 9}, {"l%s", 1}, {"l/0", 0}, {"l%0", 0}, {"l<s", 0}, {"s<l", 1}, {"l>s", 1}, {"s>l", 0}, {"l=7", 1},
            {"l=s", 0}, {"s<s", 0}, {"s>s", 0}, {"!l", 0}, {"l", 7}, {"!0", 1}, {"!!l", 1}, {"!l+5", 5}, {"l&s", 1}, {"l&0", 0},
            {"0&l", 0}, {"0|0", 0}, {"0|l", 1}, {"l|0", 1}, {"1|0&0", 1}, {"l+1<s*4&d", 1}, {"(0-l)/s+10", 8},
            {"(0-l)%s+10", 9}, {"0-l/s+10", 8}, {"0007", 7}, {"99", 99}, {"9999", 99}, {"0-1", 0},
            {"9999*9999*9999>0", 0}, {"l*s+d=23", 1}, {"2*3%4", 2}, {"100-l%4*9", 73}, {"!(l<s)", 1}, {"(0|0)+4", 4},
            {"(0&l)+4", 4}, {"(l<s)+4", 4}, {"(l=s)+4", 4}, {"(s>l)+4", 4}, {"!l+4", 4}, {"l/0+4", 4}, {"l%0+4", 4}};
        for (Object[] w : worth) {
            due("text of " + w[0], write(x, 1, (String) w[0]), 1);
            due("law by " + w[0], x.law(1, 7, 3, 2), (Integer) w[1]);
        }
        write(x, 1, "l/s=l");
        due("MIN / -1 goes round", x.law(1, MIN, -1, 0), 1);
        write(x, 1, "l%s+5");
        due("MIN % -1", x.law(1, MIN, -1, 0), 5);
        write(x, 1, "l+s<0");
        due("sums go round", x.law(1, MAX, 1, 0), 1);
        write(x, 0, "c*100+d*10+p");
        due("held to 9", x.law(0, 1, 1, 1), 9);
        write(x, 0, "p-d+c");
        due("NAMES in order", x.law(0, 1, 2, 6), 5);
    }

    // ---- days

    private static void days() {
        promise(13);
        DustSills x = allKinds(3, 0, 0);
        lay(x, 4, 1, 2, 0, 5, 6, 7, 8, 9, 0, 0, 0, 0, 0, 0, 0);
        x.town(0, 5);
        // DAY 0: HEIR to 5, LORD to 2, BARBER to 6, AUNT and GENERAL at 0, CLERK to 9, GIRL to 1;
        // they shine 6, 4, 8, 5, 5, 1, 8.
        due("days(1)", x.days(1), 37);
        row("AT", ofHeirs(x, 4), 5, 2, 6, 0, 0, 9, 1);
        row("LIT", ofHeirs(x, 5), 6, 4, 8, 5, 5, 1, 8);
        due("DAY", x.count(1), 1);
        // DAY 1: HEIR to 10, LORD to 4, BARBER to 12, AUNT to 5, CLERK to 15, GIRL to 6;
        // they shine 0, 10, 1, 3, 5, 1, 2 + 3.
        due("days(1)", x.days(1), 62);
        row("AT", ofHeirs(x, 4), 10, 4, 12, 5, 0, 15, 6);
        row("LIT", ofHeirs(x, 5), 6, 14, 9, 8, 10, 2, 13);
        x.town(1, 3);
        x.town(0, 0);
        // DAY 2: BARBER to 13, CLERK to 0, GIRL to 7: 0, 10, 1, 3, 5, 5, 1; then DAY is 3, and who lies dark is AT its LOT.
        due("days(1)", x.days(1), 87);
        row("AT, swept", ofHeirs(x, 4), 0, 4, 0, 5, 0, 0, 7);
        whoBecomesDust();
        heldSums();
        lawsInDays();
        farDays();
        DustSills y = new DustSills();
        due("days(0)", y.days(0), BEYOND);
        due("days(61)", y.days(61), BEYOND);
        due("days(-1)", y.days(-1), BEYOND);
        due("days(60)", y.days(60), 0);
        due("DAY", y.count(1), 60);
    }

    private static void whoBecomesDust() {
        DustSills x = one(0, 5, 2);
        due("days(1) ahead of DUST", x.days(1), 0);
        row("of it", new int[] {x.ofHeir(0, 3), x.ofHeir(0, 4)}, 1, -1);
        due("days(1), it shines at once", x.days(1), 3);
        row("of it", new int[] {x.ofHeir(0, 3), x.ofHeir(0, 4), x.ofHeir(0, 5)}, 0, 5, 3);
        due("days(1), it drifts", x.days(1), 6);
        due("AT", x.ofHeir(0, 4), 6);
    }

    private static void heldSums() {
        DustSills x = one(10, 0, 0);
        x.heir(40, 0, 0);
        x.sill(0, 0, 9);
        x.town(0, 0);
        x.change(0, 3, 9990);
        x.town(2, 99950);
        due("GLORY goes on where LIT is held", x.days(1), 99983);
        row("LIT", ofHeirs(x, 5), 9999, 15);
        due("GLORY is held", x.days(1), 99999);
        row("LIT", ofHeirs(x, 5), 9999, 30);
    }

    private static void lawsInDays() {
        DustSills x = one(0, 0, 0);
        x.heir(0, 8, 1);
        write(x, 0, "p*2+c");
        write(x, 1, "l*10+s+d*3");
        // 1 is DUST ahead of the DAY: 3 CARTS come; each that is DUST then has 33.
        due("days(1)", x.days(1), 66);
        row("AT", ofHeirs(x, 4), 3, 8);
        // 2 are DUST: 5 CARTS come; each has 36.
        due("days(1)", x.days(1), 138);
        row("AT", ofHeirs(x, 4), 8, 13);
        x.change(0, 1, 9);
        due("then(1, 1), 1 being DUST", x.then(1, 1), 0);
        x.change(0, 1, 0);
        x.change(0, 2, 8);
        write(x, 0, "c*99");
        write(x, 1, "9999");
        due("days(1), held to 9 and 99", x.days(1), 336);
        row("AT", ofHeirs(x, 4), 1, 6);
        write(x, 0, "0-c");
        write(x, 1, "0-l");
        due("days(1), held to 0 and 0", x.days(1), 336);
        row("AT", ofHeirs(x, 4), 1, 6);
        write(x, 1, "d");
        x.days(18);
        int was = x.count(4);
        due("DAY", x.count(1), 22);
        due("d is 22, 23, 0", x.days(3), was + 90);
        // On the DAYS 25 to 48 d is 1 to 23, and 0 again: each with as many CARTS, held to 9.
        write(x, 0, "d");
        due("then(1, 0)", x.then(1, 0), 2);
        due("then(3, 0)", x.then(3, 0), 7);
        due("then(23, 0)", x.then(23, 0), (1 + 45 + 14 * 9) % 16);
        due("then(24, 0)", x.then(24, 0), (1 + 45 + 14 * 9) % 16);
        due("then(25, 0)", x.then(25, 0), (1 + 45 + 14 * 9 + 1) % 16);
    }

    private static void farDays() {
        DustSills x = one(60, 1, 0);
        for (int i = 0; i < 166; i++) {
            x.days(60);
        }
        due("DAY", x.count(1), 9960);
        due("days(40)", x.days(40), STATE);
        due("loose(40)", x.loose(40), STATE);
        due("loose(41)", x.loose(41), BEYOND);
        due("z", x.count(10), 1);
        due("days(61)", x.days(61), BEYOND);
        x.days(38);
        due("loose(2)", x.loose(2), STATE);
        x.image();
        due("days(1)", x.days(1) >= 0 ? 1 : 0, 1);
        due("DAY", x.count(1), 9999);
        x.restore();
        due("loose(1)", x.loose(1) >= 0 ? 1 : 0, 1);
        due("DAY", x.count(1), 9999);
        due("days(1)", x.days(1), STATE);
        for (int i = 0; i < 16; i++) {
            x.sill(i, 1, (i + 1) % 16);
        }
        x.town(0, 1);
        due("loose(1)", x.loose(1), STATE);
        due("days(0)", x.days(0), BEYOND);
        // DAYS 9999 and 10000 are only thought: by 1 CART from AT on.
        int at = x.ofHeir(0, 4);
        due("then(2, 0)", x.then(2, 0), (at + 2) % 16);
        due("DAY", x.count(1), 9999);
    }

    private static void loose() {
        promise(14);
        DustSills x = one(0, 0, 0);
        int z = 1;
        int at = 0;
        int[] to = new int[16];
        for (int i = 0; i < 16; i++) {
            to[i] = (i + 1) % 16;
        }
        for (int day = 1; day <= 40; day++) {
            z = z * 1103515245 + 12345;
            int carts = (z >>> 8) % 6;
            z = z * 1103515245 + 12345;
            int g = z >>> 8;
            if (g % 4 == 0) {
                to[g / 4 % 16] = g / 64 % 16;
            }
            for (int i = 0; i < carts; i++) {
                at = to[at];
            }
            due("loose(1)", x.loose(1), 3 * day);
            due("CARTS", x.count(2), carts);
            due("z", x.count(10), z);
            due("AT", x.ofHeir(0, 4), at);
        }
        for (int i = 0; i < 16; i++) {
            due("TO", x.ofSill(i, 1), to[i]);
        }
        DustSills y = one(0, 0, 0);
        due("loose(40)", y.loose(40), 120);
        due("AT", y.ofHeir(0, 4), at);
        due("DAY", y.count(1), 40);
        due("loose(0)", y.loose(0), BEYOND);
        due("loose(41)", y.loose(41), BEYOND);
        due("z", y.count(10), z);
    }

    // ---- what would be

    private static void then() {
        promise(15);
        DustSills x = one(0, 3, 0);
        x.heir(0, 7, 2);
        due("then(0, 0)", x.then(0, 0), 3);
        due("then(5, 0)", x.then(5, 0), 8);
        due("then(60, 0)", x.then(60, 0), 15);
        due("then(1, 1)", x.then(1, 1), -1);
        due("then(2, 1)", x.then(2, 1), 7);
        due("then(-1, 0)", x.then(-1, 0), BEYOND);
        due("then(61, 0)", x.then(61, 0), BEYOND);
        due("then(0, 2)", x.then(0, 2), BEYOND);
        due("then(0, -1)", x.then(0, -1), BEYOND);
        row("nothing went", counts(x), 2, 0, 1, 7, 0, 48, 0);
        due("AT", x.ofHeir(0, 4), 3);
    }

    private static void first() {
        promise(16);
        DustSills x = one(0, 3, 0);
        x.heir(40, 3, 0);
        x.heir(20, 13, 1);
        due("first(3, 0)", x.first(3, 0), 0);
        due("first(3, 1)", x.first(3, 1), 0);
        due("first(7, 0)", x.first(7, 0), 4);
        due("first(7, 1)", x.first(7, 1), 0);
        due("first(13, 0)", x.first(13, 0), 1);
        due("first(13, 1)", x.first(13, 1), 2);
        due("first(1, 0)", x.first(1, 0), 3);
        due("first(1, 1)", x.first(1, 1), 2);
        x.town(0, 0);
        x.become(2, 40);
        due("first(4, 0)", x.first(4, 0), NONE);
        due("first(4, 1)", x.first(4, 1), NONE);
        x.change(2, 1, 60);
        due("first(13, 0) by 60", x.first(13, 0), 60);
        x.change(2, 1, 61);
        due("first(13, 0) by 61", x.first(13, 0), NONE);
        due("first(-1, 0)", x.first(-1, 0), BEYOND);
        due("first(16, 0)", x.first(16, 0), BEYOND);
        due("first(0, -1)", x.first(0, -1), BEYOND);
        due("first(0, 2)", x.first(0, 2), BEYOND);
    }

    private static void meet() {
        promise(17);
        DustSills x = one(0, 3, 0);
        x.heir(40, 8, 0);
        x.heir(40, 8, 3);
        x.heir(40, 3, 0);
        x.heir(40, 3, 61);
        due("meet(0, 1)", x.meet(0, 1), 5);
        due("meet(1, 0)", x.meet(1, 0), 5);
        due("meet(1, 2)", x.meet(1, 2), 3);
        due("meet(0, 3)", x.meet(0, 3), 0);
        due("meet(1, 3)", x.meet(1, 3), NONE);
        due("meet(3, 4)", x.meet(3, 4), NONE);
        x.change(4, 1, 60);
        due("meet(3, 4)", x.meet(3, 4), 60);
        x.change(1, 1, 99);
        x.change(2, 1, 99);
        due("meet(1, 2), both no DUST", x.meet(1, 2), NONE);
        due("meet(0, 0)", x.meet(0, 0), BEYOND);
        due("meet(0, 5)", x.meet(0, 5), BEYOND);
        due("meet(-1, 0)", x.meet(-1, 0), BEYOND);
    }

    private static void bright() {
        promise(18);
        DustSills x = one(0, 3, 0);
        due("bright(0, 0)", x.bright(0, 0), 0);
        due("bright(0, 1)", x.bright(0, 1), 1);
        due("bright(0, 3)", x.bright(0, 3), 1);
        due("bright(0, 4)", x.bright(0, 4), 2);
        due("bright(0, 180)", x.bright(0, 180), 60);
        due("bright(0, 181)", x.bright(0, 181), NONE);
        x.change(0, 1, 99);
        x.change(0, 3, 50);
        due("bright(0, 50) of no DUST", x.bright(0, 50), 0);
        due("bright(0, 51) of no DUST", x.bright(0, 51), NONE);
        due("bright(0, -1)", x.bright(0, -1), BEYOND);
        due("bright(0, 10000)", x.bright(0, 10000), BEYOND);
        due("bright(0, 9999)", x.bright(0, 9999), NONE);
        due("bright(1, 0)", x.bright(1, 0), BEYOND);
        due("bright(-1, 0)", x.bright(-1, 0), BEYOND);
    }

    private static void place() {
        promise(19);
        DustSills x = one(0, 3, 0);
        lay(x, 0, 0, 9, 0, 0, 0, 9, 5);
        // By 1 DAY one had best come to 2 or 6, by 2 DAYS to 6 and 7.
        due("place(0, 0, 0)", x.place(0, 0, 0), 0);
        due("place(0, 0, 1)", x.place(0, 0, 1), 0);
        due("place(0, 1, 0)", x.place(0, 1, 0), 1);
        due("place(0, 1, 1)", x.place(0, 1, 1), 9);
        due("place(0, 2, 0)", x.place(0, 2, 0), 5);
        due("place(0, 2, 1)", x.place(0, 2, 1), 14);
        x.change(0, 1, 2);
        due("place(0, 2, 0) of no DUST", x.place(0, 2, 0), 2);
        due("place(0, 3, 0) of no DUST", x.place(0, 3, 0), 6);
        due("place(0, 3, 1) of no DUST", x.place(0, 3, 1), 14);
        due("LOT", x.ofHeir(0, 2), 3);
        due("place(0, 30, 1)", x.place(0, 30, 1) > 0 ? 1 : 0, 1);
        due("place(0, 31, 0)", x.place(0, 31, 0), BEYOND);
        due("place(0, -1, 0)", x.place(0, -1, 0), BEYOND);
        due("place(1, 0, 0)", x.place(1, 0, 0), BEYOND);
        due("place(0, 0, 2)", x.place(0, 0, 2), BEYOND);
        due("place(0, 0, -1)", x.place(0, 0, -1), BEYOND);
    }

    private static void cartsFor() {
        promise(20);
        DustSills x = one(0, 3, 0);
        x.heir(30, 0, 0);
        x.heir(0, 0, 9);
        x.sill(8, 0, 5);
        due("cartsFor(1, 1)", x.cartsFor(1, 1), 5);
        due("cartsFor(1, 0)", x.cartsFor(1, 0), 9);
        due("cartsFor(1, 2)", x.cartsFor(1, 2), 8);
        due("cartsFor(1, 3)", x.cartsFor(1, 3), 7);
        due("cartsFor(2, 3)", x.cartsFor(2, 3), 9);
        due("cartsFor(3, 1)", x.cartsFor(3, 1), 5);
        due("cartsFor(0, 30)", x.cartsFor(0, 30), 9);
        due("cartsFor(4, 8)", x.cartsFor(4, 8), NONE);
        due("cartsFor(7, 8)", x.cartsFor(7, 8), NONE);
        due("cartsFor(4, 9)", x.cartsFor(4, 9), 9);
        x.sill(8, 0, 4);
        due("cartsFor(1, 1) with 0 alone", x.cartsFor(1, 1), 0);
        due("CARTS", x.count(2), 1);
        due("cartsFor(8, 1)", x.cartsFor(8, 1), BEYOND);
        due("cartsFor(-1, 1)", x.cartsFor(-1, 1), BEYOND);
        due("cartsFor(1, -1)", x.cartsFor(1, -1), BEYOND);
        due("cartsFor(1, 31)", x.cartsFor(1, 31), BEYOND);
        due("cartsFor(1, 1) of none", new DustSills().cartsFor(1, 1), BEYOND);
    }

    private static void stop() {
        promise(21);
        DustSills x = one(0, 0, 0);
        lay(x, 0, 1, 9, 1, 9);
        // By 2 DAYS it goes to 1 and 2, for 10: no stop betters that. By 3 a stop at 2 gives 19, not 11.
        due("stop(0, 2)", x.stop(0, 2), -1);
        due("stop(0, 3)", x.stop(0, 3), 2);
        due("stop(0, 0)", x.stop(0, 0), -1);
        x.sill(1, 0, 9);
        due("stop(0, 3), of several the least", x.stop(0, 3), 1);
        due("TO", x.ofSill(1, 1), 2);
        due("stop(0, 20)", x.stop(0, 20), 1);
        x.sill(0, 0, 9);
        x.sill(1, 0, 8);
        due("stop(0, 3) at 0", x.stop(0, 3), 0);
        x.sill(0, 0, 0);
        x.sill(1, 0, 9);
        due("stop(0, 21)", x.stop(0, 21), BEYOND);
        due("stop(0, -1)", x.stop(0, -1), BEYOND);
        due("stop(1, 0)", x.stop(1, 0), BEYOND);
        due("stop(-1, 0)", x.stop(-1, 0), BEYOND);
    }

    private static void swap() {
        promise(22);
        DustSills x = one(40, 0, 1);
        x.heir(30, 1, 1);
        x.heir(40, 2, 1);
        lay(x, 0, 9, 9);
        // Behind 1 DAY the GENERALS shine 0 and 15, the AUNT 0; the first two changed, 15, 15 and 9.
        due("swap(0)", x.swap(0), -1);
        due("swap(1)", x.swap(1), 1);
        row("LOTS stay", ofHeirs(x, 2), 0, 1, 2);
        x.become(1, 40);
        due("swap(1), none make it more", x.swap(1), -1);
        x.become(0, 30);
        x.become(2, 30);
        x.sill(2, 0, 0);
        x.sill(0, 0, 9);
        // LOTS 0, 1 have SUN 9, LOT 2 has 0: AUNT, GENERAL, AUNT shine 0, 15, 9.
        due("swap(1), as it is best", x.swap(1), -1);
        x.sill(1, 0, 0);
        // LOTS 1, 2 have SUN 0, LOT 0 has 9: 0, 0, 9; the first two changed, 9, 15, 9.
        due("swap(1)", x.swap(1), 1);
        x.heir(30, 2, 0);
        due("swap(1) of four", x.swap(1), 1);
        due("swap(20)", x.swap(20) >= -1 ? 1 : 0, 1);
        due("swap(21)", x.swap(21), BEYOND);
        due("swap(-1)", x.swap(-1), BEYOND);
        due("swap(20) of none", new DustSills().swap(20), -1);
        swapOfLater();
    }

    private static void swapOfLater() {
        DustSills x = one(0, 0, 1);
        x.heir(0, 0, 1);
        x.heir(30, 5, 1);
        x.heir(40, 0, 1);
        lay(x, 0, 0, 0, 0, 0, 9);
        // AUNT 2 has 0 at 5; with HEIR 0 or 1 she has 9, and it 9: 18; with GENERAL 3 it is 9 and 15.
        due("swap(1) of the latter two", x.swap(1), 23);
        DustSills z = one(40, 0, 1);
        z.heir(60, 9, 1);
        lay(z, 0, 3, 3, 3, 3, 3, 3, 3, 3, 9);
        // The GENERAL would have 15 in place of 0, the GIRL 9 in place of 0.
        due("swap(1) of two", z.swap(1), 1);
        z.sill(0, 0, 9);
        z.sill(9, 0, 0);
        // 15 and 9 as it is.
        due("swap(1) of two, as it is best", z.swap(1), -1);
        z.become(1, 40);
        z.heir(30, 9, 1);
        z.sill(9, 0, 3);
        // 15, 3 and 6; whoever changes with 0 makes it no more.
        due("swap(1) of three, as it is best", z.swap(1), -1);
        x.become(3, 0);
        due("swap(1), of several the least", x.swap(1), 2);
        DustSills y = one(40, 0, 0);
        y.heir(30, 1, 0);
        lay(y, 0, 9);
        // Both lie already, and neither drifts on DAY 0: LOTS alone would change nothing.
        due("AT stays where LOTS change", y.swap(1), -1);
    }

    private static void sunFor() {
        promise(23);
        DustSills x = one(40, 5, 0);
        x.town(2, 100);
        due("sunFor(5, 0, 1)", x.sunFor(5, 0, 1), 0);
        due("sunFor(5, 1, 1)", x.sunFor(5, 1, 1), 2);
        due("sunFor(5, 15, 1)", x.sunFor(5, 15, 1), 9);
        due("sunFor(5, 16, 1)", x.sunFor(5, 16, 1), NONE);
        due("sunFor(5, 16, 2)", x.sunFor(5, 16, 2), 6);
        due("sunFor(5, 450, 30)", x.sunFor(5, 450, 30), 9);
        due("sunFor(5, 451, 30)", x.sunFor(5, 451, 30), NONE);
        due("sunFor(5, 0, 0)", x.sunFor(5, 0, 0), 0);
        due("sunFor(5, 1, 0)", x.sunFor(5, 1, 0), NONE);
        x.town(2, 99998);
        due("sunFor(5, 1, 1), GLORY held", x.sunFor(5, 1, 1), 2);
        due("sunFor(5, 2, 1), GLORY held", x.sunFor(5, 2, 1), NONE);
        due("SUN", x.ofSill(5, 0), 3);
        due("sunFor(16, 0, 0)", x.sunFor(16, 0, 0), BEYOND);
        due("sunFor(-1, 0, 0)", x.sunFor(-1, 0, 0), BEYOND);
        due("sunFor(0, -1, 0)", x.sunFor(0, -1, 0), BEYOND);
        due("sunFor(0, 10000, 0)", x.sunFor(0, 10000, 0), BEYOND);
        due("sunFor(0, 9999, 0)", x.sunFor(0, 9999, 0), NONE);
        due("sunFor(0, 0, 31)", x.sunFor(0, 0, 31), BEYOND);
        due("sunFor(0, 0, -1)", x.sunFor(0, 0, -1), BEYOND);
    }

    private static void sweepFor() {
        promise(24);
        DustSills x = one(0, 0, 0);
        for (int i = 0; i < 16; i++) {
            x.sill(i, 0, i == 1 ? 9 : 0);
        }
        // It is lit at 1 alone: swept after each second DAY it comes there in each one after.
        due("sweepFor(0, 0)", x.sweepFor(0, 0), 1);
        due("sweepFor(0, 1)", x.sweepFor(0, 1), 1);
        due("sweepFor(0, 2)", x.sweepFor(0, 2), 1);
        due("sweepFor(0, 3)", x.sweepFor(0, 3), 1);
        x.sill(1, 0, 0);
        x.sill(3, 0, 9);
        due("sweepFor(0, 7)", x.sweepFor(0, 7), 4);
        due("sweepFor(0, 60)", x.sweepFor(0, 60), 4);
        due("SWEEP", x.count(3), 7);
        due("sweepFor(0, 61)", x.sweepFor(0, 61), BEYOND);
        due("sweepFor(0, -1)", x.sweepFor(0, -1), BEYOND);
        due("sweepFor(1, 0)", x.sweepFor(1, 0), BEYOND);
        due("sweepFor(-1, 0)", x.sweepFor(-1, 0), BEYOND);
        x.sill(3, 0, 0);
        x.sill(15, 0, 9);
        // It comes to 15 once, if it is not swept ahead of DAY 15, when it lies there.
        due("sweepFor(0, 29), of several the least", x.sweepFor(0, 29), 15);
        x.town(0, 8);
        x.sill(15, 0, 0);
        x.sill(8, 0, 9);
        due("sweepFor(0, 60) by 8 CARTS", x.sweepFor(0, 60), 1);
        longSweep();
    }

    private static void longSweep() {
        DustSills x = one(0, 0, 0);
        x.sill(0, 1, 0);
        x.sill(2, 1, 2);
        x.sill(2, 0, 0);
        x.change(0, 2, 2);
        write(x, 1, "s<1");
        // It gains 1 a DAY in the dark, until it is swept to the light, and stays there.
        due("sweepFor(0, 60) of the dark", x.sweepFor(0, 60), 30);
        due("sweepFor(0, 30) of the dark", x.sweepFor(0, 30), 30);
        due("sweepFor(0, 29) of the dark", x.sweepFor(0, 29), 29);
    }

    private static void whence() {
        promise(25);
        DustSills x = one(3, 9, 50);
        due("whence(0, 0, 0), missing", x.whence(0, 0, 0), NONE);
        due("whence(0, 0, 2), missing", x.whence(0, 0, 2), BEYOND);
        due("whence(0, 1, 0), missing", x.whence(0, 1, 0), BEYOND);
        due("whence(4, 0, 0)", x.whence(4, 0, 0), BEYOND);
        due("whence(-1, 0, 0)", x.whence(-1, 0, 0), BEYOND);
        due("whence(0, -1, 0)", x.whence(0, -1, 0), BEYOND);
        due("whence(0, 0, -1)", x.whence(0, 0, -1), BEYOND);
        fill(x, 0, 8);
        due("whence by nothing", x.whence(0, 0, 0), 112);
        due("whence by nothing", x.whence(0, 0, 1), 0);
        // DAY 0 by 1 CART: HEIR and GIRL 1, LORD, AUNT, GENERAL 0, BARBER 2, CLERK 2 + 3; so one SILL for each KIND.
        fill(x, 1, 16, 7);
        due("whence by 7", x.whence(1, 0, 0), 7);
        due("whence by 7", x.whence(1, 0, 1), 6);
        // DAY 1: HEIR, AUNT, GIRL 1, LORD, GENERAL 0, BARBER, CLERK 2.
        fill(x, 2, 32, 7, 8);
        due("whence by 7, 8", x.whence(2, 0, 0), 3);
        due("whence by 7, 8", x.whence(2, 0, 1), 6);
        fill(x, 2, 8, 7, 9);
        due("whence by 7, 9", x.whence(2, 0, 0), 2);
        due("whence by 7, 9", x.whence(2, 0, 1), 205);
        fill(x, 2, 8, 7, 7);
        due("whence by 7, 7", x.whence(2, 0, 0), 2);
        due("whence by 7, 7", x.whence(2, 0, 1), 107);
        fill(x, 2, 8, 7, 6);
        due("whence by 7, 6", x.whence(2, 0, 0), 0);
        due("whence by 7, 6", x.whence(2, 0, 1), NONE);
        row("of it", new int[] {x.ofHeir(0, 0), x.ofHeir(0, 3), x.ofHeir(0, 4)}, 0, 50, -1);
        x.sill(0, 0, 0);
        x.town(1, 1);
        x.town(0, 0);
        // Each KIND comes to 9 from one SILL, and to 0 from another, which is dark: swept to the LOT 9.
        fill(x, 3, 8, 9);
        due("whence by 9, swept", x.whence(3, 0, 0), 14);
        due("whence by 9, swept", x.whence(3, 0, 1), 0);
    }

    private static void bare() {
        promise(26);
        DustSills x = one(0, 0, 0);
        x.heir(40, 0, 2);
        due("bare(0)", x.bare(0), 65534);
        due("bare(1)", x.bare(1), 65533);
        due("bare(2)", x.bare(2), 65530);
        due("bare(60)", x.bare(60), 65535 - 1 - (1 << 12));
        due("bare(61)", x.bare(61), BEYOND);
        due("bare(-1)", x.bare(-1), BEYOND);
        due("bare(60) of none", new DustSills().bare(60), 65535);
    }

    private static void crowd() {
        promise(27);
        DustSills x = one(0, 1, 0);
        x.heir(40, 3, 0);
        x.heir(40, 3, 3);
        due("crowd(0, 0)", x.crowd(0, 0), 1);
        due("crowd(0, 1)", x.crowd(0, 1), 1);
        due("crowd(2, 0)", x.crowd(2, 0), 3);
        due("crowd(2, 1)", x.crowd(2, 1), 2);
        due("crowd(3, 0)", x.crowd(3, 0), 3);
        due("crowd(3, 1)", x.crowd(3, 1), 2);
        due("crowd(60, 1)", x.crowd(60, 1), 2);
        due("crowd(18, 1)", x.crowd(18, 1), 3);
        x.change(0, 2, 0);
        x.change(1, 2, 0);
        due("crowd(0, 0) at 0", x.crowd(0, 0), 0);
        due("crowd(0, 1) at 0", x.crowd(0, 1), 2);
        x.change(0, 2, 15);
        x.change(1, 2, 15);
        due("crowd(0, 0) at 15", x.crowd(0, 0), 15);
        due("crowd(0, 0) of none", new DustSills().crowd(0, 0), 0);
        due("crowd(60, 1) of none", new DustSills().crowd(60, 1), 0);
        due("crowd(61, 0)", x.crowd(61, 0), BEYOND);
        due("crowd(-1, 0)", x.crowd(-1, 0), BEYOND);
        due("crowd(0, 2)", x.crowd(0, 2), BEYOND);
        due("crowd(0, -1)", x.crowd(0, -1), BEYOND);
    }

    private static void light() {
        promise(28);
        DustSills x = one(0, 1, 0);
        x.town(2, 1000);
        due("light(0)", x.light(0), 0);
        due("light(1)", x.light(1), 3);
        due("light(60)", x.light(60), 180);
        x.town(2, 99900);
        due("light(60), held", x.light(60), 99);
        due("GLORY", x.count(4), 99900);
        due("light(61)", x.light(61), BEYOND);
        due("light(-1)", x.light(-1), BEYOND);
    }

    private static void late() {
        promise(29);
        DustSills x = one(0, 1, 0);
        x.heir(0, 1, 7);
        x.heir(0, 1, 60);
        x.heir(0, 1, 61);
        due("late(0)", x.late(0), 0);
        due("late(1)", x.late(1), 0);
        due("late(2)", x.late(2), 7);
        due("late(3)", x.late(3), 7);
        due("late(7)", x.late(7), 60);
        due("late(8)", x.late(8), NONE);
        due("late(15)", x.late(15), NONE);
        due("late(16)", x.late(16), BEYOND);
        due("late(-1)", x.late(-1), BEYOND);
        due("late(MIN)", x.late(MIN), BEYOND);
        x.change(0, 1, 5);
        due("late(1)", x.late(1), 5);
        due("late(3)", x.late(3), 7);
        due("late(1) of none", new DustSills().late(1), BEYOND);
    }

    private static void odds() {
        promise(30);
        DustSills x = one(0, 0, 0);
        x.heir(0, 0, 2);
        x.heir(30, 0, 0);
        lay(x, 0, 5, 6, 4, 0, 0, 9, 9, 9, 5);
        // Behind 1 DAY by 0 to 9 CARTS it lies on 0 to 9: its LOT, and 1, 2, 6, 7, 8, 9 have 5 or more.
        due("odds(0, 1, 0)", x.odds(0, 1, 0), 7);
        due("odds(0, 1, 1)", x.odds(0, 1, 1), 10);
        x.sill(9, 0, 4);
        due("odds(0, 1, 0)", x.odds(0, 1, 0), 3);
        due("odds(0, 1, 1)", x.odds(0, 1, 1), 5);
        x.sill(8, 0, 4);
        due("odds(0, 1, 0)", x.odds(0, 1, 0), 1);
        due("odds(0, 1, 1)", x.odds(0, 1, 1), 2);
        due("odds(1, 1, 0)", x.odds(1, 1, 0), 0);
        due("odds(1, 1, 1)", x.odds(1, 1, 1), 1);
        due("odds(2, 60, 0)", x.odds(2, 60, 0), 1);
        due("odds(2, 60, 1)", x.odds(2, 60, 1), 1);
        due("odds(0, 0, 0)", x.odds(0, 0, 0), 1);
        due("CARTS", x.count(2), 1);
        due("odds(0, 61, 0)", x.odds(0, 61, 0), BEYOND);
        due("odds(0, -1, 0)", x.odds(0, -1, 0), BEYOND);
        due("odds(3, 0, 0)", x.odds(3, 0, 0), BEYOND);
        due("odds(0, 0, 2)", x.odds(0, 0, 2), BEYOND);
        due("odds(0, 0, -1)", x.odds(0, 0, -1), BEYOND);
    }

    // ---- draws, voices, sheets, images, what is told

    private static void seed() {
        promise(31);
        DustSills x = new DustSills();
        due("seed(BEYOND)", x.seed(BEYOND), 1);
        due("seed(MIN)", x.seed(MIN), BEYOND);
        due("count(10)", x.count(10), MIN);
        due("seed(0)", x.seed(0), MIN);
        row("no ERRORS", errors(x), 0, 0, 0, 0, 0);
        x.loose(1);
        due("z of two draws from 0", x.count(10), 12345 * 1103515245 + 12345);
    }

    private static void voices() {
        promise(32);
        DustSills x = new DustSills();
        for (int i = 0; i < 3; i++) {
            x.heir(0, 0, 0);
        }
        // n is 2, m 4, x 5: lies 7, shines 14, drifts 1, tells 14 ^ 1.
        speaks(x, 4, 0, 7, 10);
        speaks(x, 4, 1, 14, 11, 10);
        speaks(x, 4, 2, 1, 12);
        speaks(x, 4, 3, 14 ^ 1, 13, 11, 10, 12);
        // LORD: lies 21, shines 42.
        speaks(x, 14, 0, 21, 20, 10);
        speaks(x, 14, 1, 42, 11, 20, 10);
        speaks(x, 14, 2, 1, 12);
        speaks(x, 14, 3, 42 ^ 1, 13, 11, 20, 10, 12);
        // BARBER: shines 14 - (1 - 4).
        speaks(x, 24, 0, 7, 10);
        speaks(x, 24, 1, 17, 30, 11, 10, 12);
        speaks(x, 24, 2, 1, 12);
        speaks(x, 24, 3, 17 ^ 1, 13, 30, 11, 10, 12, 12);
        // AUNT: drifts -1.
        speaks(x, 34, 1, 14, 11, 10);
        speaks(x, 34, 2, -1, 40, 12);
        speaks(x, 34, 3, 14 ^ -1, 13, 11, 10, 40, 12);
        // GENERAL: tells less lies(2), which is 12.
        speaks(x, 44, 0, 21, 20, 10);
        speaks(x, 44, 3, (42 ^ 1) - 12, 50, 13, 11, 20, 10, 12, 20, 10);
        // CLERK: shines as BARBER with 6: 16 + 3.
        speaks(x, 54, 1, 19, 60, 30, 11, 10, 12);
        speaks(x, 54, 3, 19 ^ 1, 13, 60, 30, 11, 10, 12, 12);
        // GIRL: drifts -1 ^ 2, tells 14 less (14 ^ that).
        speaks(x, 64, 0, 7, 10);
        speaks(x, 64, 1, 14, 11, 10);
        speaks(x, 64, 2, -1 ^ 2, 70, 40, 12);
        speaks(x, 64, 3, 14 - (14 ^ (-1 ^ 2)), 71, 11, 10, 13, 11, 10, 70, 40, 12);
        promise(32);
        due("x goes round", x.voice(2, 0, MAX), MIN + 1);
        x.become(2, 10);
        due("it goes round", x.voice(2, 0, MAX), (MIN + 1) * 3);
        due("an answer like an ERROR", x.voice(0, 0, BEYOND), BEYOND);
        row("no ERRORS", errors(x), 0, 0, 0, 0, 0);
        due("voice(3, 0, 0)", x.voice(3, 0, 0), BEYOND);
        due("voice(-1, 0, 0)", x.voice(-1, 0, 0), BEYOND);
        due("voice(0, 4, 0)", x.voice(0, 4, 0), BEYOND);
        due("voice(0, -1, 0)", x.voice(0, -1, 0), BEYOND);
        due("THE TRACE stays", x.count(9), 1);
        row("told", errors(x), 4, 0, 0, 0, 0);
    }

    private static void speaks(DustSills x, int km, int act, int answer, int... trace) {
        x.become(2, km);
        promise(32);
        due("voice of " + km + ", " + act, x.voice(2, act, 5), answer);
        promise(33);
        due("BODIES of " + km + ", " + act, x.count(9), trace.length);
        for (int i = 0; i < trace.length; i++) {
            due("trace(" + i + ") of " + km + ", " + act, x.trace(i), trace[i]);
        }
    }

    private static void trace() {
        promise(33);
        DustSills x = one(0, 0, 0);
        due("trace(0) ahead", x.trace(0), NONE);
        x.voice(0, 3, 1);
        due("trace(3)", x.trace(3), 12);
        due("trace(4)", x.trace(4), NONE);
        due("trace(-1)", x.trace(-1), NONE);
        due("trace(40)", x.trace(40), NONE);
        due("trace(MIN)", x.trace(MIN), NONE);
        x.voice(0, 2, 1);
        due("of the latest alone", x.trace(1), NONE);
        row("told", errors(x), 0, 6, 0, 0, 0);
    }

    private static void sheet() {
        promise(34);
        DustSills x = one(0, 0, 0);
        due("sheet(4, 8, 1)", x.sheet(4, 8, 1), BEYOND);
        due("sheet(-1, 8, -1)", x.sheet(-1, 8, -1), BEYOND);
        due("sheet(0, 7, -1)", x.sheet(0, 7, -1), BEYOND);
        due("sheet(0, 64, 1)", x.sheet(0, 64, 1), BEYOND);
        due("sheet(0, 24, 1)", x.sheet(0, 24, 1), BEYOND);
        due("sheet(0, -8, 1)", x.sheet(0, -8, 1), BEYOND);
        due("sheet(0, 8, -1)", x.sheet(0, 8, -1), STATE);
        due("sheet(0, 32, MIN)", x.sheet(0, 32, MIN), STATE);
        due("sheet(0, 8, 41)", x.sheet(0, 8, 41), BEYOND);
        due("still missing", x.judge(0), NONE);
        due("sheet(0, 8, 40)", x.sheet(0, 8, 40), 1);
        due("put(0, 39, 1)", x.put(0, 39, 1), 1);
        due("sheet(3, 32, 0)", x.sheet(3, 32, 0), 1);
        due("put(3, 0, 1)", x.put(3, 0, 1), BEYOND);
        due("sheet(0, 16, 41)", x.sheet(0, 16, 41), BEYOND);
        due("put(0, 39, 1)", x.put(0, 39, 1), 1);
        x.put(0, 0, 5);
        due("sheet(0, 8, 1)", x.sheet(0, 8, 1), 1);
        due("all 0", x.judge(0), -1);
        due("sheet(0, 0, -5)", x.sheet(0, 0, -5), 1);
        due("missing", x.put(0, 0, 1), NONE);
        due("sheet(1, 0, 99)", x.sheet(1, 0, 99), 1);
        x.sheet(0, 8, 1);
        due("all 0", x.judge(0), -1);
        row("told", errors(x), 9, 2, 2, 0, 0);
    }

    private static void put() {
        promise(35);
        DustSills x = one(0, 5, 0);
        due("put(4, 0, 0)", x.put(4, 0, 0), BEYOND);
        due("put(-1, 0, 0)", x.put(-1, 0, 0), BEYOND);
        due("put(0, -1, 0), missing", x.put(0, -1, 0), NONE);
        x.sheet(0, 8, 1);
        x.sheet(1, 16, 1);
        x.sheet(2, 32, 1);
        due("put(0, 1, 0)", x.put(0, 1, 0), BEYOND);
        due("put(0, -1, 0)", x.put(0, -1, 0), BEYOND);
        due("put(0, 0, 5)", x.put(0, 0, 5), 1);
        due("as it was put", x.judge(0), -1);
        due("put(0, 0, 256 + 5)", x.put(0, 0, 261), 1);
        due("of 8 bits", x.judge(0), -1);
        x.put(0, 0, 128 + 5);
        due("not of 7", x.judge(0), 0);
        x.put(1, 0, 65536 * 3 + 5);
        due("of 16 bits", x.judge(1), -1);
        x.put(1, 0, 256 + 5);
        due("not of 8", x.judge(1), 0);
        x.put(1, 0, 32768 + 5);
        due("not of 15", x.judge(1), 0);
        x.put(2, 0, 65536 + 5);
        due("not of 16", x.judge(2), 0);
        x.put(2, 0, MIN + 5);
        due("not of 31", x.judge(2), 0);
        x.put(2, 0, 5);
        due("of 32 bits", x.judge(2), -1);
    }

    private static void move() {
        promise(36);
        DustSills x = new DustSills();
        fill(x, 0, 8, 1, 2, 3, 4, 5);
        fill(x, 1, 8, 9, 9, 9);
        fill(x, 2, 16, 7, 7);
        due("move(4, 0, 0, 0, 1)", x.move(4, 0, 0, 0, 1), BEYOND);
        due("move(0, 0, -1, 0, 1)", x.move(0, 0, -1, 0, 1), BEYOND);
        due("move(3, 0, 4, 0, 1)", x.move(3, 0, 4, 0, 1), BEYOND);
        due("move(3, 0, 0, 0, 1)", x.move(3, 0, 0, 0, 1), NONE);
        due("move(0, 0, 3, 0, -1)", x.move(0, 0, 3, 0, -1), NONE);
        due("move(0, 0, 2, 0, -1)", x.move(0, 0, 2, 0, -1), KIND);
        int[][] off = {{0, 0, -1}, {-1, 0, 1}, {0, -1, 1}, {5, 0, 1}, {0, 3, 1}, {3, 0, 3}, {0, 1, 3}, {6, 0, 0}, {0, 4, 0},
            {1, 0, MAX}, {MAX, 0, 1}, {0, MAX, 1}, {MIN, 0, 1}, {0, 0, MIN}, {MAX, MAX, MAX}};
        for (int[] o : off) {
            due("move(0, " + o[0] + ", 1, " + o[1] + ", " + o[2] + ")", x.move(0, o[0], 1, o[1], o[2]), BEYOND);
        }
        due("move(0, 5, 1, 3, 0)", x.move(0, 5, 1, 3, 0), 0);
        due("move(0, 3, 1, 1, 2)", x.move(0, 3, 1, 1, 2), 2);
        due("move(0, 0, 0, 1, 4)", x.move(0, 0, 0, 1, 4), 4);
        due("suns(0)", x.suns(0), 5);
        row("SHEET 0", suns(x, 5), 1, 1, 2, 3, 4);
        due("move(0, 2, 0, 0, 3)", x.move(0, 2, 0, 0, 3), 3);
        x.suns(0);
        row("SHEET 0", suns(x, 5), 2, 3, 4, 3, 4);
        x.suns(1);
        row("SHEET 1", suns(x, 3), 9, 4, 5);
        row("told", errors(x), 18, 2, 0, 0, 1);
    }

    private static void sunsOfSheets() {
        promise(37);
        DustSills x = new DustSills();
        due("suns(0), missing", x.suns(0), NONE);
        due("suns(4)", x.suns(4), BEYOND);
        due("suns(-1)", x.suns(-1), BEYOND);
        fill(x, 0, 8, 0, 9, 10, 5);
        due("suns(0)", x.suns(0), 2);
        row("SUN", suns(x, 4), 0, 9, 3, 3);
        fill(x, 0, 32, 4, 4, 4, -1);
        due("suns(0)", x.suns(0), 3);
        row("SUN", suns(x, 4), 4, 4, 4, 3);
        fill(x, 1, 16);
        due("suns(1) of nothing", x.suns(1), 0);
        x.sheet(2, 8, 40);
        due("suns(2), more than SILLS", x.suns(2), 16);
        due("SUN of all", x.count(5), 0);
        row("told", errors(x), 2, 1, 0, 0, 0);
    }

    private static void judge() {
        promise(38);
        DustSills x = new DustSills();
        due("judge(0), missing", x.judge(0), NONE);
        due("judge(4)", x.judge(4), BEYOND);
        due("judge(-1)", x.judge(-1), BEYOND);
        fill(x, 0, 8);
        due("none of none", x.judge(0), -1);
        x.heir(0, 4, 0);
        x.heir(0, 15, 9);
        due("the first lacks", x.judge(0), 0);
        fill(x, 0, 8, 4);
        due("the second lacks", x.judge(0), 1);
        fill(x, 0, 8, 4, 15);
        due("all are", x.judge(0), -1);
        x.change(0, 2, 9);
        due("LOTS, not AT", x.judge(0), -1);
        fill(x, 0, 8, 4, 15, 0);
        due("one too many", x.judge(0), 2);
        fill(x, 0, 8, 4, 14, 0);
        due("the second isn't so", x.judge(0), 1);
        fill(x, 0, 8, 5, 15);
        due("the first isn't so", x.judge(0), 0);
        for (int i = 2; i < 8; i++) {
            x.heir(0, i, 0);
        }
        fill(x, 0, 8, 4, 15, 2, 3, 4, 5, 6, 7);
        due("all 8 are", x.judge(0), -1);
        fill(x, 0, 8, 4, 15, 2, 3, 4, 5, 6, 7, 0);
        due("a ninth", x.judge(0), 8);
        row("told", errors(x), 2, 1, 0, 0, 0);
    }

    private static void images() {
        promise(39);
        DustSills x = one(33, 4, 0);
        x.sill(2, 0, 8);
        x.sill(2, 1, 9);
        x.town(0, 4);
        x.town(1, 9);
        x.town(2, 50);
        x.days(3);
        write(x, 0, "2");
        write(x, 1, "5");
        x.feed('3', 1);
        x.tell(1);
        x.seed(99);
        x.voice(0, 0, 0);
        x.sheet(0, 8, 2);
        int[] was = counts(x);
        int at = x.ofHeir(0, 4);
        int lit = x.ofHeir(0, 5);
        due("image()", x.image(), 1);
        x.heir(0, 0, 0);
        x.sill(2, 0, 1);
        x.sill(2, 1, 1);
        x.become(0, 68);
        x.change(0, 0, 1);
        x.change(0, 1, 9);
        x.change(0, 3, 9);
        x.town(1, 2);
        x.loose(3);
        x.feed('4', 1);
        x.tell(2);
        due("text(1)", x.text(1), 1);
        write(x, 0, "c");
        x.voice(0, 3, 0);
        x.sheet(0, 8, 3);
        x.put(0, 0, 7);
        promise(40);
        due("restore()", x.restore(), 3);
        was[9] = 7 + 2;
        row("count", counts(x), was);
        row("of heir 0", new int[] {x.ofHeir(0, 0), x.ofHeir(0, 1), x.ofHeir(0, 2), x.ofHeir(0, 3), x.ofHeir(0, 4),
            x.ofHeir(0, 5)}, 3, 3, 4, 0, at, lit);
        row("of sill 2", new int[] {x.ofSill(2, 0), x.ofSill(2, 1)}, 8, 9);
        row("laws", new int[] {x.law(0, 0, 0, 0), x.law(1, 0, 0, 0)}, 2, 5);
        due("the SHEET is no part of it", x.suns(0), 3);
        due("THE TRACE is no part of it", x.trace(0), 71);
        due("THE TAPE", x.text(1), 1);
        due("of THE TAPE", x.law(1, 0, 0, 0), 3);
        x.days(1);
        due("restore(), which stays", x.restore(), 3);
        due("law(1, ..)", x.law(1, 0, 0, 0), 5);
        due("check() of what waited", x.check(), 1);
        DustSills y = one(0, 0, 0);
        y.tell(3);
        y.tell(6);
        y.image();
        y.check();
        y.tell(4);
        y.restore();
        due("check() of what waited", y.check(), 0);
        imagesAnew();
    }

    private static void imagesAnew() {
        promise(40);
        DustSills x = new DustSills();
        due("restore()", x.restore(), NONE);
        promise(39);
        due("image()", x.image(), 1);
        write(x, 0, "5");
        x.days(2);
        due("image()", x.image(), 2);
        x.days(2);
        promise(40);
        due("restore()", x.restore(), 2);
        due("law(0, ..)", x.law(0, 1, 0, 0), 5);
        due("told(2) is no part of it", x.told(2), 1);
        promise(39);
        due("image(), how often is no part of it", x.image(), 3);
        DustSills y = new DustSills();
        y.image();
        write(y, 0, "5");
        y.restore();
        due("without a TEXT again", y.law(0, 1, 0, 0), 1);
    }

    private static void tell() {
        promise(41);
        DustSills x = new DustSills();
        for (int i = 1; i <= 20; i++) {
            due("tell(i)", x.tell(i == 9 ? MIN : i), i);
        }
        due("tell(21)", x.tell(21), FULL);
        due("count(8)", x.count(8), 20);
        due("check()", x.check(), 1);
        due("count(8)", x.count(8), 0);
        due("tell(0)", x.tell(0), 1);
        row("told", errors(x), 0, 0, 0, 1, 0);
    }

    private static void check() {
        promise(42);
        DustSills x = one(0, 0, 0);
        x.town(2, 10);
        for (int i = 1; i <= 20; i++) {
            x.tell(10 + 3 * i);
        }
        due("check() of 20", x.check(), 0);
        due("none wait", x.count(8), 0);
        due("check() of none", x.check(), 0);
        x.tell(13);
        x.tell(16);
        x.tell(20);
        x.tell(23);
        due("check(), the third isn't so", x.check(), 3);
        due("none wait", x.count(8), 0);
        x.tell(13);
        due("check() of one", x.check(), 0);
        x.tell(10);
        due("check(), not GLORY now", x.check(), 1);
        due("DAY", x.count(1), 0);
        due("GLORY", x.count(4), 10);
    }

    private static void count() {
        promise(43);
        DustSills x = one(0, 0, 0);
        x.heir(10, 3, 0);
        x.sill(0, 0, 9);
        x.town(0, 0);
        x.town(1, 5);
        x.days(2);
        x.tell(5);
        x.feed(7, 3);
        x.voice(0, 1, 1);
        x.seed(BEYOND);
        row("count", counts(x), 2, 2, 0, 5, 30, 54, 30, 3, 1, 2, BEYOND);
        due("count(11)", x.count(11), BEYOND);
        due("count(-1)", x.count(-1), BEYOND);
        row("told", errors(x), 2, 0, 0, 0, 0);
    }

    private static void told() {
        promise(44);
        DustSills x = one(0, 0, 9);
        due("told(0)", x.told(0), BEYOND);
        due("told(6)", x.told(6), BEYOND);
        due("told(MIN)", x.told(MIN), BEYOND);
        due("told(1), counted, too", x.told(1), 3);
        x.restore();
        x.change(0, 2, 0);
        x.change(0, 2, 0);
        x.as(0, 1);
        x.feed(0, 8);
        for (int i = 0; i < 20; i++) {
            x.tell(i);
        }
        x.tell(20);
        x.text(0);
        row("told", errors(x), 3, 1, 2, 1, 1);
    }

    public static void main(String[] args) {
        aNewObject();
        sill();
        ofSill();
        town();
        heir();
        ofHeir();
        change();
        become();
        as();
        feed();
        text();
        law();
        days();
        loose();
        then();
        first();
        meet();
        bright();
        place();
        cartsFor();
        stop();
        swap();
        sunFor();
        sweepFor();
        whence();
        bare();
        crowd();
        light();
        late();
        odds();
        seed();
        voices();
        trace();
        sheet();
        put();
        move();
        sunsOfSheets();
        judge();
        images();
        tell();
        check();
        count();
        told();
        end("all promises hold");
    }
}
