/** Each sentence of the document's Terms 1 and 2 that names a boundary case: the case itself, and both sides of it. */
public final class TermsTest extends Hands {
    // ---- what all acts share

    private static void errorsAsNumbers() {
        says("ERRORS are answers below -1000000000: LOW is -1000000000; LOW - 1 BEYOND, LOW - 2 NONE, LOW - 3 STATE, "
            + "LOW - 4 FULL, LOW - 5 KIND.");
        DustSills x = one(0, 0, 9);
        due("BEYOND", x.ofSill(16, 0), -1000000001);
        due("NONE", x.restore(), -1000000002);
        due("STATE", x.change(0, 2, 0), -1000000003);
        for (int i = 1; i < 8; i++) {
            x.heir(0, 0, 0);
        }
        due("FULL", x.heir(0, 0, 0), -1000000004);
        due("KIND", x.as(0, 1), -1000000005);
        row("told", errors(x), 1, 1, 1, 1, 1);
        x.seed(LOW);
        due("LOW, which is no ERROR", x.seed(LOW - 6), LOW);
        due("LOW - 6, which is none", x.seed(1), LOW - 6);
        row("told", errors(x), 1, 1, 1, 1, 1);
    }

    private static void manyCalls() {
        says("An object is used for at most 512 calls after it has been made");
        DustSills x = one(40, 3, 0);
        for (int i = 1; i < 500; i++) {
            due("days(1)", x.days(1), 3 * i);
        }
        for (int i = 500; i < 510; i++) {
            due("told(0)", x.told(0), BEYOND);
        }
        due("the 511th, told(1)", x.told(1), 10);
        due("the 512th, count(1)", x.count(1), 499);
    }

    private static void quotients() {
        says("Quotients are cut (toward 0).");
        int[] halves = {0, 0, 1, 1, 2, 2, 3, 3, 4, 4};
        DustSills x = one(10, 0, 99);
        for (int carts = 0; carts < 10; carts++) {
            x.town(0, carts);
            due("half of " + carts, x.ofHeir(0, 6), halves[carts]);
        }
        write(x, 1, "l/s+50");
        int[][] cut = {{7, 2, 3}, {6, 2, 3}, {1, 2, 0}, {0, 2, 0}, {-1, 2, 0}, {-6, 2, -3}, {-7, 2, -3}, {7, -2, -3}, {-7, -2, 3},
            {1, -2, 0}, {-1, -2, 0}};
        for (int[] c : cut) {
            due(c[0] + " / " + c[1], x.law(1, c[0], c[1], 0), c[2] + 50);
        }
    }

    // ---- 1: sills, the town

    private static void sills() {
        DustSills x = new DustSills();
        says("SILLS 0 .. 15");
        due("ofSill(-1, 0)", x.ofSill(-1, 0), BEYOND);
        due("ofSill(0, 0)", x.ofSill(0, 0), 3);
        due("ofSill(15, 0)", x.ofSill(15, 0), 3);
        due("ofSill(16, 0)", x.ofSill(16, 0), BEYOND);
        says("SUN (0 to 9; 3 at first)");
        row("SUN", suns(x, 16), 3, 3, 3, 3, 3, 3, 3, 3, 3, 3, 3, 3, 3, 3, 3, 3);
        due("sill(4, 0, -1)", x.sill(4, 0, -1), BEYOND);
        due("sill(4, 0, 0)", x.sill(4, 0, 0), 3);
        due("sill(4, 0, 1)", x.sill(4, 0, 1), 0);
        due("sill(4, 0, 8)", x.sill(4, 0, 8), 1);
        due("sill(4, 0, 9)", x.sill(4, 0, 9), 8);
        due("sill(4, 0, 10)", x.sill(4, 0, 10), BEYOND);
        due("ofSill(4, 0)", x.ofSill(4, 0), 9);
    }

    private static void carts() {
        says("TO, a SILL to which a CART carries from there (the next one, of 15 the SILL 0, at first)");
        DustSills x = one(0, 14, 0);
        for (int s = 0; s < 15; s++) {
            due("TO of " + s, x.ofSill(s, 1), s + 1);
        }
        due("TO of 15", x.ofSill(15, 1), 0);
        due("then(1, 0)", x.then(1, 0), 15);
        due("then(2, 0)", x.then(2, 0), 0);
        due("then(3, 0)", x.then(3, 0), 1);
        due("sill(15, 1, -1)", x.sill(15, 1, -1), BEYOND);
        due("sill(15, 1, 16)", x.sill(15, 1, 16), BEYOND);
        due("sill(15, 1, 15)", x.sill(15, 1, 15), 0);
        due("then(60, 0), TO itself", x.then(60, 0), 15);
        due("sill(15, 1, 0)", x.sill(15, 1, 0), 15);
        due("then(60, 0), once round and more", x.then(60, 0), 10);
        says("CARTS (0 to 9: so many in a DAY; 1 at first)");
        due("count(2)", x.count(2), 1);
        for (int carts = 0; carts < 10; carts++) {
            due("town(0, carts)", x.town(0, carts), carts == 0 ? 1 : carts - 1);
            due("then(1, 0) by " + carts, x.then(1, 0), (14 + carts) % 16);
        }
        due("town(0, 10)", x.town(0, 10), BEYOND);
        due("town(0, -1)", x.town(0, -1), BEYOND);
        due("count(2)", x.count(2), 9);
    }

    private static void sweepAndGlory() {
        says("SWEEP (1 to 30; 7 at first)");
        DustSills x = inTheDark();
        due("count(3)", x.count(3), 7);
        due("then(6, 0)", x.then(6, 0), 2);
        due("then(7, 0)", x.then(7, 0), 5);
        due("town(1, 0)", x.town(1, 0), BEYOND);
        due("town(1, 1)", x.town(1, 1), 7);
        due("then(0, 0) by 1", x.then(0, 0), 2);
        due("then(1, 0) by 1", x.then(1, 0), 5);
        due("town(1, 2)", x.town(1, 2), 1);
        due("then(1, 0) by 2", x.then(1, 0), 2);
        due("then(2, 0) by 2", x.then(2, 0), 5);
        due("town(1, 29)", x.town(1, 29), 2);
        due("then(28, 0) by 29", x.then(28, 0), 2);
        due("then(29, 0) by 29", x.then(29, 0), 5);
        due("town(1, 30)", x.town(1, 30), 29);
        due("then(29, 0) by 30", x.then(29, 0), 2);
        due("then(30, 0) by 30", x.then(30, 0), 5);
        due("town(1, 31)", x.town(1, 31), BEYOND);
        due("count(3)", x.count(3), 30);
        says("GLORY (0 to 99999; 0 at first)");
        due("count(4)", x.count(4), 0);
        due("town(2, -1)", x.town(2, -1), BEYOND);
        due("town(2, 99998)", x.town(2, 99998), 0);
        due("town(2, 99999)", x.town(2, 99999), 99998);
        due("town(2, 100000)", x.town(2, 100000), BEYOND);
        due("town(2, 0)", x.town(2, 0), 99999);
        due("town(2, 1)", x.town(2, 1), 0);
        due("count(4)", x.count(4), 1);
    }

    /** One with the LOT 5 AT the SILL 2, which is dark, while no CARTS come. */
    private static DustSills inTheDark() {
        DustSills x = one(0, 5, 0);
        x.town(0, 0);
        x.sill(2, 0, 0);
        x.change(0, 2, 2);
        return x;
    }

    private static void day() {
        says("DAY (0 to 9999; 0 at first)");
        DustSills x = new DustSills();
        due("count(1)", x.count(1), 0);
        pass(x, 9998);
        due("count(1)", x.count(1), 9998);
        due("days(1)", x.days(1), 0);
        due("count(1)", x.count(1), 9999);
        due("days(1)", x.days(1), STATE);
        due("loose(1)", x.loose(1), STATE);
        due("count(1)", x.count(1), 9999);
    }

    // ---- 1: heirs

    private static void heirs() {
        says("HEIRS 0, 1, .. (at most 8)");
        DustSills x = new DustSills();
        due("ofHeir(0, 2) of none", x.ofHeir(0, 2), BEYOND);
        for (int i = 0; i < 8; i++) {
            due("heir(0, i, 0)", x.heir(0, i, 0), i);
            due("ofHeir(i, 2)", x.ofHeir(i, 2), i);
            due("ofHeir(i + 1, 2)", x.ofHeir(i + 1, 2), BEYOND);
        }
        due("heir(0, 0, 0), the ninth", x.heir(0, 0, 0), FULL);
        due("ofHeir(8, 2)", x.ofHeir(8, 2), BEYOND);
        due("ofHeir(-1, 2)", x.ofHeir(-1, 2), BEYOND);
        due("count(0)", x.count(0), 8);
        says("with a number m (0 to 9)");
        int[][] kms = {{0, 0, 0}, {9, 0, 9}, {10, 1, 0}, {19, 1, 9}, {20, 2, 0}, {59, 5, 9}, {60, 6, 0}, {69, 6, 9}};
        for (int[] km : kms) {
            DustSills y = one(km[0], 0, 0);
            row("KIND and m of " + km[0], new int[] {y.ofHeir(0, 0), y.ofHeir(0, 1)}, km[1], km[2]);
            x.become(7, km[0]);
            row("KIND and m by become", new int[] {x.ofHeir(7, 0), x.ofHeir(7, 1)}, km[1], km[2]);
        }
        DustSills y = new DustSills();
        due("heir(-1, 0, 0)", y.heir(-1, 0, 0), BEYOND);
        due("heir(70, 0, 0)", y.heir(70, 0, 0), BEYOND);
        says("a LOT (a SILL that was told; more than one may have it)");
        due("heir(0, -1, 0)", y.heir(0, -1, 0), BEYOND);
        due("heir(0, 16, 0)", y.heir(0, 16, 0), BEYOND);
        for (int i = 0; i < 8; i++) {
            due("heir(0, 15, 0)", y.heir(0, 15, 0), i);
        }
        due("ofSill(15, 3), of all", y.ofSill(15, 3), 255);
        due("change(0, 0, 0)", y.change(0, 0, 0), 15);
        due("ofSill(0, 3), of one", y.ofSill(0, 3), 1);
        due("ofSill(15, 3), of the others", y.ofSill(15, 3), 254);
    }

    private static void kinds() {
        says("of KINDS: 0 HEIR; 1 LORD, 2 BARBER, 3 AUNT under HEIR; 4 GENERAL under LORD; 5 CLERK under BARBER; 6 GIRL under AUNT");
        int[][] lines = {{0}, {0, 1}, {0, 2}, {0, 3}, {0, 1, 4}, {0, 2, 5}, {0, 3, 6}};
        for (int kind = 0; kind < 7; kind++) {
            DustSills x = one(10 * kind + 8, 0, 0);
            int[] answers = {KIND, KIND, KIND, KIND, KIND, KIND, KIND};
            for (int above : lines[kind]) {
                answers[above] = 8;
            }
            for (int k = 0; k < 7; k++) {
                due("one of KIND " + kind + " as one of " + k, x.as(0, k), answers[k]);
            }
        }
    }

    private static void leftAndLit() {
        says("LEFT (0 to 99 DAYS; DUST is who has 0 LEFT)");
        DustSills x = new DustSills();
        due("heir(0, 3, -1)", x.heir(0, 3, -1), BEYOND);
        due("heir(0, 3, 100)", x.heir(0, 3, 100), BEYOND);
        due("heir(0, 3, 0)", x.heir(0, 3, 0), 0);
        due("heir(0, 3, 1)", x.heir(0, 3, 1), 1);
        due("heir(0, 3, 99)", x.heir(0, 3, 99), 2);
        row("LEFT", ofHeirs(x, 3), 0, 1, 99);
        row("AT", ofHeirs(x, 4), 3, -1, -1);
        due("change(2, 1, 100)", x.change(2, 1, 100), BEYOND);
        due("change(2, 1, -1)", x.change(2, 1, -1), BEYOND);
        x.days(60);
        x.days(38);
        row("LEFT behind 98", ofHeirs(x, 3), 0, 0, 1);
        due("AT behind 98", x.ofHeir(2, 4), -1);
        x.days(1);
        row("LEFT behind 99", ofHeirs(x, 3), 0, 0, 0);
        due("AT behind 99", x.ofHeir(2, 4), 3);
        says("LIT (0 to 9999; 0 at first)");
        DustSills y = one(0, 3, 0);
        due("ofHeir(0, 5)", y.ofHeir(0, 5), 0);
        due("change(0, 3, -1)", y.change(0, 3, -1), BEYOND);
        due("change(0, 3, 9999)", y.change(0, 3, 9999), 0);
        due("change(0, 3, 10000)", y.change(0, 3, 10000), BEYOND);
        due("change(0, 3, 0)", y.change(0, 3, 0), 9999);
        due("ofHeir(0, 5)", y.ofHeir(0, 5), 0);
    }

    private static void whoComesToBeDust() {
        says("Who is told DUST, or comes to be it, is AT its LOT.");
        DustSills x = one(0, 11, 0);
        due("AT of one told DUST", x.ofHeir(0, 4), 11);
        x.change(0, 2, 4);
        due("change(0, 1, 1)", x.change(0, 1, 1), 0);
        due("AT of one that is none", x.ofHeir(0, 4), -1);
        due("then(1, 0)", x.then(1, 0), 11);
        due("change(0, 1, 0)", x.change(0, 1, 0), 1);
        due("AT of one told DUST by change", x.ofHeir(0, 4), 11);
        x.change(0, 1, 2);
        x.change(0, 0, 9);
        x.days(1);
        due("AT a DAY ahead", x.ofHeir(0, 4), -1);
        x.days(1);
        due("AT of one that comes to be DUST", x.ofHeir(0, 4), 9);
    }

    /** DRIFTS by so many CARTS on these DAYS (ascending), as told and as gone. */
    private static void drifts(int km, int carts, int[] days, int... want) {
        DustSills x = one(km, 0, 99);
        x.town(0, carts);
        for (int i = 0; i < days.length; i++) {
            pass(x, days[i] - x.count(1));
            String of = " of " + km + " by " + carts + " on DAY " + days[i];
            due("DRIFTS" + of, x.ofHeir(0, 6), want[i]);
            x.change(0, 1, 0);
            due("a DAY's way" + of, x.then(1, 0), want[i] % 16);
            x.change(0, 1, 99);
        }
    }

    private static void allDrifts() {
        int[] today = {1};
        int[] weeks = {0, 1, 6, 7, 8, 13, 14, 15, 34, 35, 36};
        says("DRIFTS (from SILL to SILL in a DAY, by how many CARTS come): HEIR: as many as come.");
        drifts(9, 0, today, 0);
        drifts(9, 1, today, 1);
        drifts(9, 9, weeks, 9, 9, 9, 9, 9, 9, 9, 9, 9, 9, 9);
        says("LORD: half (cut) of that.");
        drifts(19, 0, today, 0);
        drifts(19, 1, today, 0);
        drifts(19, 2, today, 1);
        drifts(19, 3, today, 1);
        drifts(19, 8, today, 4);
        drifts(19, 9, weeks, 4, 4, 4, 4, 4, 4, 4, 4, 4, 4, 4);
        says("BARBER: 1 more.");
        drifts(29, 0, today, 1);
        drifts(29, 9, weeks, 10, 10, 10, 10, 10, 10, 10, 10, 10, 10, 10);
        says("AUNT: 0 in DAYS that 7 divides, else as HEIR.");
        drifts(39, 0, weeks, 0, 0, 0, 0, 0, 0, 0, 0, 0, 0, 0);
        drifts(39, 4, weeks, 0, 4, 4, 0, 4, 4, 0, 4, 4, 0, 4);
        drifts(39, 9, weeks, 0, 9, 9, 0, 9, 9, 0, 9, 9, 0, 9);
        says("GENERAL: 0.");
        drifts(49, 0, weeks, 0, 0, 0, 0, 0, 0, 0, 0, 0, 0, 0);
        drifts(49, 9, weeks, 0, 0, 0, 0, 0, 0, 0, 0, 0, 0, 0);
        says("CLERK: as BARBER, and m in DAYS that 5 divides.");
        int[] fives = {0, 1, 4, 5, 6, 9, 10, 11, 14, 34, 35, 36};
        drifts(50, 4, fives, 5, 5, 5, 5, 5, 5, 5, 5, 5, 5, 5, 5);
        drifts(51, 4, fives, 6, 5, 5, 6, 5, 5, 6, 5, 5, 5, 6, 5);
        drifts(59, 9, fives, 19, 10, 10, 19, 10, 10, 19, 10, 10, 10, 19, 10);
        drifts(59, 0, fives, 10, 1, 1, 10, 1, 1, 10, 1, 1, 1, 10, 1);
        says("GIRL: as AUNT, but 1 at least.");
        drifts(69, 0, weeks, 1, 1, 1, 1, 1, 1, 1, 1, 1, 1, 1);
        drifts(69, 1, weeks, 1, 1, 1, 1, 1, 1, 1, 1, 1, 1, 1);
        drifts(69, 2, weeks, 1, 2, 2, 1, 2, 2, 1, 2, 2, 1, 2);
        drifts(69, 9, weeks, 1, 9, 9, 1, 9, 9, 1, 9, 9, 1, 9);
    }

    /** SHINES by each SUN on a DAY, as told and as it makes GLORY more. */
    private static void shines(int km, int day, int... want) {
        DustSills x = one(km, 0, 99);
        pass(x, day);
        for (int sun = 0; sun < want.length; sun++) {
            layAll(x, sun);
            String of = " of " + km + " by SUN " + sun + " on DAY " + day;
            due("SHINES" + of, x.ofHeir(0, 7), want[sun]);
            x.change(0, 1, 0);
            due("SHINES, being DUST," + of, x.ofHeir(0, 7), want[sun]);
            due("a DAY's light" + of, x.light(1), want[sun]);
            x.change(0, 1, 99);
        }
    }

    private static void allShines() {
        says("SHINES (by SUN of the SILL): HEIR: SUN.");
        shines(9, 1, 0, 1, 2, 3, 4, 5, 6, 7, 8, 9);
        says("LORD: twice that.");
        shines(19, 1, 0, 2, 4, 6, 8, 10, 12, 14, 16, 18);
        says("BARBER: as HEIR, and 1, if m is odd.");
        shines(20, 1, 0, 1, 2, 3, 4, 5, 6, 7, 8, 9);
        shines(21, 1, 1, 2, 3, 4, 5, 6, 7, 8, 9, 10);
        shines(22, 1, 0, 1, 2, 3, 4, 5, 6, 7, 8, 9);
        shines(28, 1, 0, 1, 2, 3, 4, 5, 6, 7, 8, 9);
        shines(29, 0, 1, 2, 3, 4, 5, 6, 7, 8, 9, 10);
        says("AUNT: 9 less SUN.");
        shines(39, 1, 9, 8, 7, 6, 5, 4, 3, 2, 1, 0);
        says("GENERAL: as LORD, less 3 (0 at least).");
        shines(49, 1, 0, 0, 1, 3, 5, 7, 9, 11, 13, 15);
        says("GIRL: as AUNT, and m in odd DAYS.");
        shines(69, 0, 9, 8, 7, 6, 5, 4, 3, 2, 1, 0);
        shines(69, 1, 18, 17, 16, 15, 14, 13, 12, 11, 10, 9);
        shines(69, 2, 9, 8, 7, 6, 5, 4, 3, 2, 1, 0);
        shines(60, 1, 9, 8, 7, 6, 5, 4, 3, 2, 1, 0);
        shines(61, 7, 10, 9, 8, 7, 6, 5, 4, 3, 2, 1);
        says("(Others as the KIND above.)");
        shines(50, 5, 0, 1, 2, 3, 4, 5, 6, 7, 8, 9);
        shines(51, 5, 1, 2, 3, 4, 5, 6, 7, 8, 9, 10);
    }

    /** CONTENT AT each SUN of a SILL that is not the LOT: from what it NEEDS on. */
    private static void needs(int km, int need) {
        DustSills x = one(km, 0, 0);
        due("NEEDS of " + km, x.ofHeir(0, 8), need);
        x.sill(0, 0, 0);
        x.change(0, 2, 1);
        for (int sun = 0; sun < 10; sun++) {
            x.sill(1, 0, sun);
            due("CONTENT of " + km + " by SUN " + sun, x.ofHeir(0, 9), sun >= need ? 1 : 0);
        }
    }

    private static void allNeeds() {
        says("NEEDS (SUN): HEIR: 5. LORD: 8. BARBER: 3. AUNT: 0. GENERAL: 9. CLERK: m. GIRL: as AUNT, and 2.");
        needs(0, 5);
        needs(19, 8);
        needs(29, 3);
        needs(39, 0);
        needs(49, 9);
        for (int m = 0; m < 10; m++) {
            needs(50 + m, m);
        }
        needs(60, 2);
        needs(69, 2);
        says("CONTENT is who is DUST, and AT its LOT, or AT a SILL of as much SUN as it NEEDS, or more.");
        for (int kind = 0; kind < 7; kind++) {
            DustSills x = one(10 * kind + 9, 4, 0);
            layAll(x, 0);
            due("CONTENT AT its LOT, dark as it is", x.ofHeir(0, 9), 1);
            layAll(x, 9);
            x.change(0, 1, 1);
            due("who is no DUST", x.ofHeir(0, 9), 0);
            due("behind 1 DAY", x.odds(0, 1, 0), 1);
        }
    }

    // ---- 1: a day

    private static void cartsAndDrifts() {
        says("(1) so many CARTS come as the TEXT gives.");
        DustSills x = one(0, 0, 0);
        x.town(0, 5);
        String[] texts = {"0-1", "0", "1", "8", "9", "10", "c"};
        int[] come = {0, 0, 1, 8, 9, 9, 5};
        for (int i = 0; i < texts.length; i++) {
            write(x, 0, texts[i]);
            due("then(1, 0) by " + texts[i], x.then(1, 0), come[i]);
        }
        says("(2) HEIRS that are DUST, by numbers: it goes TO, from the SILL that it is AT, as often as it DRIFTS.");
        DustSills y = one(59, 0, 0);
        y.heir(9, 0, 2);
        y.town(0, 9);
        due("then(1, 0), 19 times", y.then(1, 0), 3);
        due("then(1, 1), no DUST", y.then(1, 1), -1);
        y.sill(5, 1, 5);
        due("then(1, 0), to where TO is itself", y.then(1, 0), 5);
        y.sill(5, 1, 2);
        // 0 to 5 by 5, then round 2, 3, 4, 5 by 14 more.
        due("then(1, 0), round four", y.then(1, 0), 3);
    }

    private static void leftLess() {
        says("(3) Others: LEFT is 1 less; if that is 0, it is DUST.");
        DustSills x = one(29, 3, 0);
        x.heir(29, 3, 1);
        x.heir(29, 3, 2);
        x.heir(29, 3, 99);
        layAll(x, 5);
        due("days(1): the first two have 6", x.days(1), 12);
        row("LEFT", ofHeirs(x, 3), 0, 0, 1, 98);
        row("AT: who comes to be DUST goes nowhere yet", ofHeirs(x, 4), 5, 3, -1, -1);
        row("LIT", ofHeirs(x, 5), 6, 6, 0, 0);
        due("days(1): the first three", x.days(1), 30);
        row("LEFT", ofHeirs(x, 3), 0, 0, 0, 97);
        row("AT", ofHeirs(x, 4), 7, 5, 3, -1);
    }

    private static void lightIsHeld() {
        says("(4) HEIRS that are DUST: LIT is what the other TEXT gives more (held); GLORY is as much more (held).");
        int[][] lits = {{0, 3}, {9995, 9998}, {9996, 9999}, {9997, 9999}, {9999, 9999}};
        int[][] glories = {{0, 3}, {99995, 99998}, {99996, 99999}, {99997, 99999}, {99999, 99999}};
        DustSills x = one(0, 0, 0);
        for (int i = 0; i < lits.length; i++) {
            x.change(0, 3, lits[i][0]);
            x.town(2, 100);
            due("days(1): GLORY by all that the TEXT gives", x.days(1), 103);
            due("LIT from " + lits[i][0], x.ofHeir(0, 5), lits[i][1]);
            x.change(0, 3, 5);
            x.town(2, glories[i][0]);
            due("days(1): GLORY from " + glories[i][0], x.days(1), glories[i][1]);
            due("LIT", x.ofHeir(0, 5), 8);
        }
        x.heir(10, 0, 0);
        x.town(2, 99992);
        x.change(0, 3, 0);
        due("days(1) of two: 3 and 6", x.days(1), 99999);
        row("LIT of both", ofHeirs(x, 5), 3, 6);
        x.change(0, 1, 1);
        x.change(1, 1, 2);
        x.town(2, 10);
        due("days(1): who comes to be DUST on it, and nobody else", x.days(1), 13);
        says("DAY is 1 more.");
        due("DAY", x.count(1), 12);
    }

    private static void sweeping() {
        says("(5) If SWEEP divides DAY then: who is DUST, AT a SILL of SUN 0, is AT its LOT again.");
        DustSills x = inTheDark();
        x.days(6);
        due("AT on DAY 6", x.ofHeir(0, 4), 2);
        x.days(1);
        due("AT on DAY 7", x.ofHeir(0, 4), 5);
        x.change(0, 2, 2);
        due("AT on DAY 8", x.then(1, 0), 2);
        due("AT on DAY 13", x.then(6, 0), 2);
        due("AT on DAY 14", x.then(7, 0), 5);
        x.sill(2, 0, 1);
        due("AT on DAY 14 by SUN 1", x.then(7, 0), 2);
        x.sill(2, 0, 0);
        x.sill(5, 0, 0);
        due("AT on DAY 14, the LOT being dark, too", x.then(7, 0), 5);
        x.change(0, 1, 8);
        due("who is no DUST on DAY 14", x.then(7, 0), -1);
        due("DUST on DAY 15", x.then(8, 0), 5);
        x.change(0, 1, 0);
        x.change(0, 2, 2);
        x.sill(2, 0, 4);
        x.sill(3, 0, 0);
        x.town(0, 1);
        x.town(1, 8);
        // It is swept by where it came to on this DAY, not by where it was.
        due("AT on DAY 8", x.then(1, 0), 5);
    }

    // ---- 2: texts

    private static String times(String s, int n) {
        return s.repeat(n);
    }

    private static void tape() {
        says("THE TAPE (bytes, at most 50)");
        DustSills x = new DustSills();
        due("42 bytes", feedAll(x, times("1+", 21)), 42);
        due("8 more", x.feed(0x2b312b312b312b31L, 8), 50);
        due("1 more", x.feed('1', 1), FULL);
        due("bytes", x.count(7), 50);
        due("text of 50 that end too early", x.text(1), -60);
        due("43 bytes", feedAll(x, times("1+", 21) + "1"), 43);
        due("8 more", x.feed(0x2b312b312b312b31L, 8), FULL);
        due("bytes: none came", x.count(7), 43);
        due("6 more", x.feed(0x2b2b2b2b2b2bL, 6), 49);
        due("2 more", x.feed(0x3131L, 2), FULL);
        due("1 more", x.feed('1', 1), 50);
        due("text, the FAULT being at 44", x.text(1), -54);
        due("text of 50", write(x, 1, times("1+", 24) + "10"), 1);
        due("law of it", x.law(1, 0, 0, 0), 34);
        due("text whose FAULT is the last of 50", write(x, 1, times("1+", 24) + "1)"), -59);
        due("text of 49", write(x, 1, times("1+", 24) + "1"), 1);
        due("law of it", x.law(1, 0, 0, 0), 25);
    }

    private static void joiners() {
        says("T: A { | A }. A: B { & B }. B: S, or S < S, S = S, S > S. S: P { + P, - P }. P: Q { * Q, / Q, % Q }.");
        DustSills x = new DustSills();
        for (char j : "|&<=>+-*/%".toCharArray()) {
            boolean compares = "<=>".indexOf(j) >= 0;
            due("text c" + j + "d", write(x, 0, "c" + j + "d"), 1);
            due("text " + j + "d", write(x, 0, j + "d"), -10);
            due("text c" + j, write(x, 0, "c" + j), -12);
            due("text c" + j + j + "d", write(x, 0, "c" + j + j + "d"), -12);
            due("text c" + j + "d" + j + "p", write(x, 0, "c" + j + "d" + j + "p"), compares ? -13 : 1);
            due("text (c" + j + "d)" + j + "p", write(x, 0, "(c" + j + "d)" + j + "p"), 1);
            due("text c" + j + "(d" + j + "p)", write(x, 0, "c" + j + "(d" + j + "p)"), 1);
            due("text c=d&c" + j + "d", write(x, 0, "c=d&c" + j + "d"), 1);
            due("text c=d|c" + j + "d", write(x, 0, "c=d|c" + j + "d"), 1);
            due("text c=d+c" + j + "d", write(x, 0, "c=d+c" + j + "d"), compares ? -15 : 1);
        }
        Object[][] worth = {{"0|1&0", 0}, {"1|1&0", 1}, {"1&0|1", 1}, {"2&1<0", 0}, {"1<2&3", 1}, {"1+1=2", 1}, {"2=1+1", 1},
            {"3-1>1", 1}, {"1+2*3", 7}, {"2*3+1", 7}, {"9-4-3", 2}, {"9-4+3", 8}, {"64/4/2", 8}, {"64/4*2", 32}, {"7*5%4", 3},
            {"7%4*5", 15}, {"20-7%4", 17}, {"(9-4)*3", 15}, {"9-(4-3)", 8}, {"64/(4/2)", 32}, {"0|0|0", 0}, {"0|0|5", 1},
            {"5&6&7", 1}, {"5&6&0", 0}, {"1|0=0", 1}, {"0=1|2", 1}};
        for (Object[] w : worth) {
            due("text " + w[0], write(x, 1, (String) w[0]), 1);
            due("law by " + w[0], x.law(1, 0, 0, 0), (Integer) w[1]);
        }
    }

    private static void parts() {
        says("Q: a NUMBER of 1 to 4 digits, a NAME, ! Q, ( T ).");
        DustSills x = new DustSills();
        Object[][] texts = {{"", -10}, {"0", 1}, {"9", 1}, {"00", 1}, {"999", 1}, {"0000", 1}, {"9999", 1}, {"00000", -14},
            {"12345", -14}, {"c+12345", -16}, {"123456", -14}, {"1234+1", 1}, {"c", 1}, {"d", 1}, {"p", 1}, {"l", -10}, {"s", -10},
            {"C", -10}, {"b", -10}, {"e", -10}, {"o", -10}, {"q", -10}, {"cc", -11}, {"c1", -11}, {"1c", -11}, {"!", -11},
            {"!1", 1}, {"!c", 1}, {"!!c", 1}, {"!(c)", 1}, {"!)", -11}, {"!+", -11}, {"c!", -11}, {"1!", -11}, {"()", -11},
            {"(c)", 1}, {"(c", -12}, {"c)", -11}, {"(c))", -13}, {"((c)", -14}, {"(c)(d)", -13}, {"(c)d", -13}, {"(c)1", -13},
            {"c(d)", -11}, {")", -10}, {"/", -10}, {":", -10}, {"c/", -12}, {"c:", -11}, {"(c|d&p<c+d*p)", 1}};
        for (Object[] t : texts) {
            due("text " + t[0], write(x, 0, (String) t[0]), (Integer) t[1]);
        }
        Object[][] others = {{"l", 1}, {"s", 1}, {"d", 1}, {"c", -10}, {"p", -10}, {"k", -10}, {"m", -10}, {"l+c", -12}};
        for (Object[] t : others) {
            due("text of USE 1 " + t[0], write(x, 1, (String) t[0]), (Integer) t[1]);
        }
        says("No blanks.");
        int[] blanks = {0, 1, 9, 10, 13, 32, 95, 127, 128, 160, 227, 255};
        for (int b : blanks) {
            due("text of " + b + " alone", write(x, 0, "" + (char) b), -10);
            due("text of " + b + " ahead", write(x, 0, (char) b + "c"), -10);
            due("text of " + b + " behind", write(x, 0, "c" + (char) b), -11);
            due("text of " + b + " amid", write(x, 0, "c+" + (char) b + "d"), -12);
            due("text of " + b + " in a NUMBER", write(x, 0, "1" + (char) b + "1"), -11);
        }
    }

    private static void opened() {
        says("At most 5 of ! and ( are open at once.");
        DustSills x = new DustSills();
        Object[][] texts = {{"!!!!c", 1}, {"!!!!!c", 1}, {"!!!!!!c", -15}, {"((((c))))", 1}, {"(((((c)))))", 1},
            {"((((((c))))))", -15}, {"!(!(!c))", 1}, {"!(!(!(c)))", -15}, {"(!(!(c)))", 1}, {"(!(!(!c)))", -15},
            {"!!!!(c)", 1}, {"!!!!!(c)", -15}, {"((((!c))))", 1}, {"(((((!c)))))", -15}, {"!!!!!c+!!!!!c", 1},
            {"!!!!!c+!!!!!!c", -22}, {"(((((c)))))+(((((d)))))", 1}, {"(((((c)))))+((((((d))))))", -27}, {"((((!c+!d))))", 1},
            {"((((!c+!!d))))", -18}, {"(((((c)+(d)))))", 1}, {"(((((c+(d))))))", -17}, {"!!!!!1234", 1}, {"!!!!!12345", -19}};
        for (Object[] t : texts) {
            due("text " + t[0], write(x, 0, (String) t[0]), (Integer) t[1]);
        }
        write(x, 1, "!!!!!l+!!!!!s");
        due("law by 5 open twice", x.law(1, 0, 0, 0), 2);
        due("law by 5 open twice", x.law(1, 0, -7, 0), 1);
        write(x, 1, "(((((l)))))*(((((s)))))");
        due("law by 5 open twice", x.law(1, 7, 8, 0), 56);
    }

    private static void law(DustSills x, String text, int a, int b, int want) {
        write(x, 1, text);
        due("law by " + text + " of " + a + ", " + b, x.law(1, a, b, 0), want);
    }

    private static void wraps() {
        says("Ints that wrap");
        DustSills x = new DustSills();
        law(x, "l+1=s", MAX - 1, MAX, 1);
        law(x, "l+1=s", MAX, MIN, 1);
        law(x, "l-1=s", MIN + 1, MIN, 1);
        law(x, "l-1=s", MIN, MAX, 1);
        law(x, "l*2=s", MAX, -2, 1);
        law(x, "l*2=s", 1 << 30, MIN, 1);
        law(x, "l*l=s", 65536, 0, 1);
        law(x, "l/s=l", MIN, -1, 1);
        law(x, "0-l=l", MIN, 0, 1);
        law(x, "9999*9999*9999=s", 0, 9999 * 9999 * 9999, 1);
        law(x, "l<s", MIN, MAX, 1);
        law(x, "l>s", MAX, MIN, 1);
        says("/ cut, % the rest that it leaves, both by 0 are 0");
        int[][] rests = {{7, 2, 1}, {6, 2, 0}, {-7, 2, -1}, {7, -2, 1}, {-7, -2, -1}, {-6, 2, 0}, {0, 3, 0}, {MIN, -1, 0},
            {MIN, 10, -8}, {MAX, 10, 7}, {5, 1, 0}, {5, -1, 0}, {5, 0, 0}, {0, 0, 0}, {-5, 0, 0}, {MIN, 0, 0}, {1, MAX, 1}};
        for (int[] r : rests) {
            law(x, "l%s+50", r[0], r[1], r[2] + 50);
        }
        int[][] parts = {{5, 1, 5}, {5, -1, -5}, {5, 0, 0}, {-5, 0, 0}, {0, 0, 0}, {MIN, 0, 0}, {MAX, 0, 0}, {0, 5, 0}, {5, 5, 1},
            {4, 5, 0}, {-4, 5, 0}, {-5, 5, -1}, {MIN, MIN, 1}, {MAX, MIN, 0}};
        for (int[] p : parts) {
            law(x, "l/s+50", p[0], p[1], p[2] + 50);
        }
    }

    private static void truths() {
        says("| & < = > ! are 1 or 0, what is not 0 being true; all is worked out.");
        DustSills x = new DustSills();
        int[] some = {MIN, -2, -1, 0, 1, 2, MAX};
        String[] joiners = {"|", "&", "<", "=", ">"};
        for (String j : joiners) {
            write(x, 1, "(l" + j + "s)+7");
            for (int a : some) {
                for (int b : some) {
                    boolean so = j.equals("|") ? a != 0 || b != 0 : j.equals("&") ? a != 0 && b != 0
                        : j.equals("<") ? a < b : j.equals("=") ? a == b : a > b;
                    due("law by l" + j + "s of " + a + ", " + b, x.law(1, a, b, 0), so ? 8 : 7);
                }
            }
        }
        write(x, 1, "!l+7");
        for (int a : some) {
            due("law by !l of " + a, x.law(1, a, 0, 0), a == 0 ? 8 : 7);
        }
        law(x, "1|1/0", 0, 0, 1);
        law(x, "0&1%0", 0, 0, 0);
        law(x, "0&1/0|1%0=0", 0, 0, 1);
    }

    private static void faults() {
        says("FAULT: the place of the first byte with which no TEXT goes on; how many there are, if it ends too early.");
        DustSills x = new DustSills();
        Object[][] texts = {{"", 0}, {"x", 0}, {"xc", 0}, {"cx", 1}, {"cxx", 1}, {"c+", 2}, {"c+x", 2}, {"c+d", -1}, {"c+dx", 3},
            {"(", 1}, {"(c", 2}, {"(cx", 2}, {"(c+", 3}, {"(c)", -1}, {"(c)x", 3}, {"!", 1}, {"!!", 2}, {"!x", 1}, {"c<", 2},
            {"c<d", -1}, {"c<d<", 3}, {"c<d=p", 3}, {"(c<d>p)", 4}, {"(c<d)>", 6}, {"c|d&", 4}, {"1234", -1}, {"12345x", 4},
            {"c+(d*(p-", 8}, {"c+(d*(p-1)", 10}, {"c+(d*(p-1))", -1}, {"c+(d*(p-1)))", 11}};
        for (Object[] t : texts) {
            int fault = (Integer) t[1];
            due("text " + t[0], write(x, 0, (String) t[0]), fault < 0 ? 1 : -10 - fault);
            due("bytes", x.count(7), 0);
        }
        row("told: no ERROR", errors(x), 0, 0, 0, 0, 0);
    }

    private static void uses() {
        says("held within 0 to 9; without a TEXT c.");
        DustSills x = new DustSills();
        int[][] come = {{MIN, 0}, {-1, 0}, {0, 0}, {1, 1}, {8, 8}, {9, 9}, {10, 9}, {MAX, 9}};
        for (int[] c : come) {
            due("law(0, " + c[0] + ", 5, 5)", x.law(0, c[0], 5, 5), c[1]);
        }
        write(x, 0, "d");
        for (int[] c : come) {
            due("law(0, 5, " + c[0] + ", 5) by d", x.law(0, 5, c[0], 5), c[1]);
        }
        write(x, 0, "p");
        for (int[] c : come) {
            due("law(0, 5, 5, " + c[0] + ") by p", x.law(0, 5, 5, c[0]), c[1]);
        }
        says("held within 0 to 99; without a TEXT l.");
        int[][] light = {{MIN, 0}, {-1, 0}, {0, 0}, {1, 1}, {98, 98}, {99, 99}, {100, 99}, {MAX, 99}};
        for (int[] l : light) {
            due("law(1, " + l[0] + ", 5, 5)", x.law(1, l[0], 5, 5), l[1]);
        }
        write(x, 1, "s");
        for (int[] l : light) {
            due("law(1, 5, " + l[0] + ", 5) by s", x.law(1, 5, l[0], 5), l[1]);
        }
        write(x, 1, "d");
        for (int[] l : light) {
            due("law(1, 5, 5, " + l[0] + ") by d", x.law(1, 5, 5, l[0]), l[1]);
        }
    }

    private static void namesInDays() {
        says("d the rest of DAY by 24");
        DustSills x = one(0, 0, 0);
        write(x, 0, "d");
        write(x, 1, "d");
        int[][] days = {{0, 0}, {1, 1}, {8, 8}, {9, 9}, {22, 22}, {23, 23}, {24, 0}, {25, 1}, {47, 23}, {48, 0}};
        for (int[] d : days) {
            pass(x, d[0] - x.count(1));
            x.change(0, 2, 0);
            due("light(1) by d on DAY " + d[0], x.light(1), d[1]);
            due("then(1, 0) by d on DAY " + d[0], x.then(1, 0), Math.min(9, d[1]));
        }
        says("p how many are DUST");
        DustSills y = new DustSills();
        write(y, 0, "p");
        for (int i = 0; i < 8; i++) {
            y.heir(0, 0, 1);
        }
        // Who comes to be DUST on the DAY is not counted on it.
        for (int i = 0; i < 8; i++) {
            y.change(i, 1, 0);
            due("then(1, 0) with " + (i + 1) + " that are DUST", y.then(1, 0), i + 1);
            due("then(2, 0), all being DUST", y.then(2, 0), i + 9 & 15);
        }
        y.change(0, 1, 9);
        due("then(1, 7), all but 0 being DUST", y.then(1, 7), 7);
        y.change(0, 1, 1);
        due("then(1, 7), 0 coming to be DUST on the DAY", y.then(1, 7), 7);
        says("s SUN of the SILL");
        DustSills z = one(40, 6, 0);
        write(z, 1, "l*10+s");
        int[] lights = {0, 1, 12, 33, 54, 75, 96, 99, 99, 99};
        for (int sun = 0; sun < 10; sun++) {
            z.sill(6, 0, sun);
            due("light(1) by SUN " + sun, z.light(1), lights[sun]);
        }
    }

    public static void main(String[] args) {
        errorsAsNumbers();
        manyCalls();
        quotients();
        sills();
        carts();
        sweepAndGlory();
        day();
        heirs();
        kinds();
        leftAndLit();
        whoComesToBeDust();
        allDrifts();
        allShines();
        allNeeds();
        cartsAndDrifts();
        leftLess();
        lightIsHeld();
        sweeping();
        tape();
        joiners();
        parts();
        opened();
        wraps();
        truths();
        faults();
        uses();
        namesInDays();
        end("each sentence of Terms 1 and 2 holds");
    }
}
