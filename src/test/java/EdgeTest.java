/**
 * Each sentence of the document's Terms 3 and 4, and of its promises, that names a boundary case: the case itself, and
 * both sides of it. What each argument may be, and which ERROR comes first, is in BoundsTest.
 */
public final class EdgeTest extends Hands {
    // ---- sills, the town, heirs

    private static void nobody() {
        says("All as at first; no HEIRS.");
        DustSills x = new DustSills();
        int[] ofOne = {x.ofHeir(0, 0), x.change(0, 0, 0), x.become(0, 0), x.as(0, 0), x.then(0, 0), x.meet(0, 1), x.bright(0, 0),
            x.place(0, 0, 0), x.stop(0, 0), x.sweepFor(0, 0), x.whence(0, 0, 0), x.odds(0, 0, 0), x.voice(0, 0, 0),
            x.cartsFor(1, 0), x.late(1)};
        for (int i = 0; i < ofOne.length; i++) {
            due("of one that isn't there, " + i, ofOne[i], BEYOND);
        }
        due("told(1)", x.told(1), ofOne.length);
        due("first(0, 0)", x.first(0, 0), NONE);
        due("cartsFor(0, 30)", x.cartsFor(0, 30), 9);
        due("swap(20)", x.swap(20), -1);
        due("sunFor(0, 0, 30)", x.sunFor(0, 0, 30), 0);
        due("sunFor(0, 1, 30)", x.sunFor(0, 1, 30), NONE);
        due("bare(60)", x.bare(60), 65535);
        due("crowd(60, 0)", x.crowd(60, 0), 0);
        due("crowd(60, 1)", x.crowd(60, 1), 0);
        due("light(60)", x.light(60), 0);
        due("late(0)", x.late(0), 0);
        due("check()", x.check(), 0);
        x.sheet(0, 8, 0);
        due("judge(0) of nothing", x.judge(0), -1);
        x.sheet(0, 8, 1);
        due("judge(0) of one", x.judge(0), 0);
        due("days(60)", x.days(60), 0);
        due("loose(40)", x.loose(40), 0);
        row("count", counts(x), 0, 100);
        due("LIT of nobody", x.count(6), 0);
    }

    private static void sets() {
        says("2 HEIRS that are DUST AT it, 3 HEIRS whose LOT it is, as sets.");
        DustSills x = new DustSills();
        due("ofSill(6, 2) of nobody", x.ofSill(6, 2), 0);
        due("ofSill(6, 3) of nobody", x.ofSill(6, 3), 0);
        for (int i = 0; i < 8; i++) {
            x.heir(0, 6, i % 2);
        }
        due("ofSill(6, 2) of those with 0 LEFT", x.ofSill(6, 2), 1 + 4 + 16 + 64);
        due("ofSill(6, 3) of all", x.ofSill(6, 3), 255);
        x.town(0, 0);
        x.days(1);
        due("ofSill(6, 2) of all", x.ofSill(6, 2), 255);
        for (int i = 0; i < 7; i++) {
            x.change(i, 2, 7);
        }
        due("ofSill(6, 2) of the last", x.ofSill(6, 2), 128);
        due("ofSill(7, 2) of the others", x.ofSill(7, 2), 127);
        due("ofSill(7, 3)", x.ofSill(7, 3), 0);
        due("ofSill(5, 2)", x.ofSill(5, 2), 0);
    }

    private static void ofOne() {
        says("4 AT (-1: it is no DUST)");
        DustSills x = one(39, 4, 1);
        x.town(0, 0);
        lay(x, 9, 1, 2, 3, 4, 5);
        due("AT with 1 LEFT", x.ofHeir(0, 4), -1);
        says("7 SHINES by SUN of AT (of its LOT, if it is no DUST) on this DAY");
        due("SHINES by SUN 4 of its LOT", x.ofHeir(0, 7), 5);
        x.days(1);
        x.change(0, 2, 1);
        due("SHINES by SUN 1 of AT", x.ofHeir(0, 7), 8);
        x.change(0, 2, 0);
        due("SHINES by SUN 9 of AT 0", x.ofHeir(0, 7), 0);
        x.become(0, 62);
        due("SHINES on DAY 1", x.ofHeir(0, 7), 2);
        x.days(1);
        due("SHINES on DAY 2", x.ofHeir(0, 7), 9 - x.ofSill(x.ofHeir(0, 4), 0));
        says("6 DRIFTS by CARTS on this DAY");
        x.become(0, 5);
        x.town(0, 9);
        write(x, 0, "2");
        due("DRIFTS by CARTS, whatever the TEXT gives", x.ofHeir(0, 6), 9);
        says("9 1 if it is CONTENT, else 0");
        x.change(0, 2, 4);
        due("AT its LOT", x.ofHeir(0, 9), 1);
        x.change(0, 2, 3);
        due("AT SUN 3, it NEEDS 5", x.ofHeir(0, 9), 0);
        x.change(0, 2, 5);
        due("AT SUN 5", x.ofHeir(0, 9), 1);
    }

    private static void changes() {
        says("LOT (what 0), LEFT (1), AT (2), LIT (3) of an HEIR becomes v: what it was.");
        DustSills x = one(0, 0, 0);
        int[] most = {15, 99, 15, 9999};
        for (int what = 3; what >= 0; what--) {
            if (what == 1) {
                continue;
            }
            due("change(0, " + what + ", most)", x.change(0, what, most[what]), 0);
            due("change(0, " + what + ", 0)", x.change(0, what, 0), most[what]);
        }
        due("change(0, 1, 99)", x.change(0, 1, 99), 0);
        due("LEFT", x.ofHeir(0, 3), 99);
        says("STATE (what 2): it is no DUST.");
        due("change(0, 2, 3) with 99 LEFT", x.change(0, 2, 3), STATE);
        due("change(0, 1, 1)", x.change(0, 1, 1), 99);
        due("change(0, 2, 3) with 1 LEFT", x.change(0, 2, 3), STATE);
        due("AT", x.ofHeir(0, 4), -1);
        due("change(0, 0, 7) with 1 LEFT", x.change(0, 0, 7), 0);
        due("change(0, 3, 5) with 1 LEFT", x.change(0, 3, 5), 0);
        due("AT, still", x.ofHeir(0, 4), -1);
        due("change(0, 1, 0)", x.change(0, 1, 0), 1);
        due("change(0, 2, 3) with 0 LEFT", x.change(0, 2, 3), 7);
        due("change(0, 0, 9) with 0 LEFT", x.change(0, 0, 9), 7);
        due("AT, where it was", x.ofHeir(0, 4), 3);
        row("told", errors(x), 0, 0, 2, 0, 0);
    }

    private static void becoming() {
        says("An HEIR becomes one of a KIND, with m (km): the KIND that it was.");
        DustSills x = one(0, 8, 0);
        x.change(0, 2, 3);
        x.change(0, 3, 44);
        int was = 0;
        for (int kind = 6; kind >= 0; kind--) {
            due("become(0, " + (10 * kind + 9) + ")", x.become(0, 10 * kind + 9), was);
            due("become(0, " + 10 * kind + ")", x.become(0, 10 * kind), kind);
            row("of it", new int[] {x.ofHeir(0, 0), x.ofHeir(0, 1), x.ofHeir(0, 2), x.ofHeir(0, 3), x.ofHeir(0, 4),
                x.ofHeir(0, 5)}, kind, 0, 8, 0, 3, 44);
            was = kind;
        }
        says("An HEIR as one of a KIND: m.");
        x.become(0, 69);
        due("as(0, 0)", x.as(0, 0), 9);
        due("as(0, 3)", x.as(0, 3), 9);
        due("as(0, 6)", x.as(0, 6), 9);
        says("KIND: it isn't of that KIND, nor of one under it.");
        due("as(0, 1)", x.as(0, 1), KIND);
        due("as(0, 5)", x.as(0, 5), KIND);
        x.become(0, 30);
        due("as(0, 6), which is under it", x.as(0, 6), KIND);
        due("as(0, 3)", x.as(0, 3), 0);
        due("as(0, 7)", x.as(0, 7), BEYOND);
        due("as(0, -1)", x.as(0, -1), BEYOND);
    }

    // ---- texts, days

    private static void feeding() {
        says("The n lowest bytes (1 .. 8) of a word, the lowest first, come to THE TAPE: how many there are.");
        DustSills x = new DustSills();
        long word = 0;
        String text = "1+2*3-4d";
        for (int i = 0; i < 8; i++) {
            word |= (long) text.charAt(i) << 8 * i;
        }
        int[] faults = {1, -12, 1, -14, 1, -16, 1, -17};
        int[] worth = {1, 0, 3, 0, 7, 0, 3, 0};
        due("feed(word, 0)", x.feed(word, 0), BEYOND);
        for (int n = 1; n <= 8; n++) {
            due("feed(word, " + n + ")", x.feed(word, n), n);
            due("text of " + n, x.text(1), faults[n - 1]);
            if (faults[n - 1] == 1) {
                due("law of " + n, x.law(1, 0, 0, 0), worth[n - 1]);
            }
        }
        due("feed(word, 9)", x.feed(word, 9), BEYOND);
        due("feed(-1, 8)", x.feed(-1L, 8), 8);
        due("feed(-1, 1)", x.feed(-1L, 1), 9);
        due("feed(MIN, 8)", x.feed(Long.MIN_VALUE, 8), 17);
        due("feed(MAX, 8)", x.feed(Long.MAX_VALUE, 8), 25);
        due("text, by 255 first", x.text(0), -10);
        // The greatest byte of a word is no sign of it: 11 * 2 + 11, and 0xb1, no blank, no digit.
        due("feed(.., 8)", x.feed(0xb131312b322a3131L, 8), 8);
        due("text, by 0xb1 last", x.text(0), -17);
    }

    private static void reading() {
        says("THE TAPE, which is empty then, is the TEXT of a USE (0, 1), in place of one ahead: 1. BEYOND (THE TAPE stays). "
            + "-10 less the FAULT (no ERROR; the one ahead stays).");
        DustSills x = new DustSills();
        due("text(0) of nothing", x.text(0), -10);
        due("without a TEXT still", x.law(0, 4, 0, 0), 4);
        due("text 7", write(x, 0, "7"), 1);
        due("bytes", x.count(7), 0);
        due("text(0) of nothing", x.text(0), -10);
        due("the one ahead stays", x.law(0, 4, 0, 0), 7);
        due("text 8)", write(x, 0, "8)"), -11);
        due("bytes", x.count(7), 0);
        due("the one ahead stays", x.law(0, 4, 0, 0), 7);
        due("text 6+, a longer one", write(x, 0, "6+6+6+6+"), -18);
        due("the one ahead stays", x.law(0, 4, 0, 0), 7);
        feedAll(x, "5");
        due("text(-1)", x.text(-1), BEYOND);
        due("text(2)", x.text(2), BEYOND);
        due("bytes", x.count(7), 1);
        due("text(1)", x.text(1), 1);
        row("laws", new int[] {x.law(0, 4, 0, 0), x.law(1, 4, 0, 0)}, 7, 5);
        due("text 2, a shorter one", write(x, 0, "1+1+1"), 1);
        due("law", x.law(0, 4, 0, 0), 3);
        due("text 2", write(x, 0, "2"), 1);
        due("in place of the one ahead", x.law(0, 4, 0, 0), 2);
        row("told", errors(x), 2, 0, 0, 0, 0);
        says("What a USE gives with its NAMES in order as a, b, c.");
        write(x, 0, "c*4+d*2+p");
        row("laws", new int[] {x.law(0, 1, 0, 0), x.law(0, 0, 1, 0), x.law(0, 0, 0, 1), x.law(0, 1, 1, 1)}, 4, 2, 1, 7);
        write(x, 1, "l*4+s*2+d");
        row("laws", new int[] {x.law(1, 1, 0, 0), x.law(1, 0, 1, 0), x.law(1, 0, 0, 1), x.law(1, MAX, 0, 4), x.law(1, MAX, 2, 1)},
            4, 2, 1, 0, 1);
    }

    private static void lastDays() {
        says("n (1 to 60) DAYS: GLORY then.");
        DustSills x = one(40, 0, 0);
        due("days(0)", x.days(0), BEYOND);
        due("days(1)", x.days(1), 3);
        due("days(60)", x.days(60), 183);
        due("days(61)", x.days(61), BEYOND);
        due("DAY", x.count(1), 61);
        says("STATE: DAY would be above 9999.");
        pass(x, 9938 - 61);
        x.image();
        due("days(60) from 9938", x.days(60), 9998 * 3);
        due("DAY", x.count(1), 9998);
        due("days(2) from 9998", x.days(2), STATE);
        due("days(60) from 9998", x.days(60), STATE);
        due("days(1) from 9998", x.days(1), 9999 * 3);
        due("days(1) from 9999", x.days(1), STATE);
        x.restore();
        x.days(1);
        due("days(60) from 9939", x.days(60), 9999 * 3);
        x.restore();
        x.days(2);
        due("days(60) from 9940", x.days(60), STATE);
        due("DAY", x.count(1), 9940);
        due("days(59) from 9940", x.days(59), 9999 * 3);
        due("days(61) from 9999", x.days(61), BEYOND);
        due("days(0) from 9999", x.days(0), BEYOND);
        lastLooseDays(x);
    }

    private static void lastLooseDays(DustSills x) {
        says("n (1 to 40) DAYS by draws: likewise.");
        DustSills y = one(40, 0, 0);
        due("loose(0)", y.loose(0), BEYOND);
        due("loose(1)", y.loose(1), 3);
        due("loose(40)", y.loose(40), 123);
        due("loose(41)", y.loose(41), BEYOND);
        due("DAY", y.count(1), 41);
        says("STATE: DAY would be above 9999.");
        x.restore();
        x.days(20);
        due("loose(40) from 9958", x.loose(40), 9998 * 3);
        due("loose(2) from 9998", x.loose(2), STATE);
        x.restore();
        x.days(21);
        due("loose(40) from 9959", x.loose(40), 9999 * 3);
        due("loose(1) from 9999", x.loose(1), STATE);
        due("loose(41) from 9999", x.loose(41), BEYOND);
        x.restore();
        x.days(22);
        due("loose(40) from 9960", x.loose(40), STATE);
        row("count: no draws", counts(x), 1, 9960, 1, 7, 9960 * 3);
        due("z: no draws", x.count(10), 1);
        due("loose(39) from 9960", x.loose(39), 9999 * 3);
    }

    // ---- what would be

    private static void behind() {
        says("(All this is only thought, DAY beyond 9999, too.)");
        DustSills x = one(33, 0, 0);
        pass(x, 9999);
        x.change(0, 2, 0);
        // The AUNT stays on DAY 10003, which 7 divides, and on 10010.
        int[] at = {0, 1, 2, 3, 4, 4, 5, 6, 7, 8, 9, 10, 10, 11};
        for (int n = 0; n < at.length; n++) {
            due("then(" + n + ", 0) from DAY 9999", x.then(n, 0), at[n]);
        }
        due("light(60) from DAY 9999", x.light(60), 360);
        due("DAY", x.count(1), 9999);
        due("AT", x.ofHeir(0, 4), 0);
        says("BEHIND n DAYS (0 to 60).");
        DustSills y = one(66, 3, 0);
        y.heir(9, 3, 60);
        y.heir(9, 3, 61);
        due("then(-1, 0)", y.then(-1, 0), BEYOND);
        due("then(0, 0)", y.then(0, 0), 3);
        due("then(59, 1)", y.then(59, 1), -1);
        due("then(60, 1)", y.then(60, 1), 3);
        due("then(60, 2)", y.then(60, 2), -1);
        due("then(61, 2)", y.then(61, 2), BEYOND);
        int then = y.then(60, 0);
        y.days(60);
        due("AT behind 60 DAYS", y.ofHeir(0, 4), then);
    }

    private static void first() {
        says("FIRST on a SILL: behind how many DAYS (0 to 60) anybody that is DUST is AT it first; who (the least).");
        DustSills x = one(40, 9, 61);
        x.heir(40, 9, 60);
        x.heir(40, 9, 60);
        x.heir(40, 8, 61);
        due("first(9, 0) by 60 LEFT", x.first(9, 0), 60);
        due("first(9, 1)", x.first(9, 1), 1);
        due("first(8, 0) by 61 LEFT", x.first(8, 0), NONE);
        due("first(8, 1)", x.first(8, 1), NONE);
        x.days(1);
        due("first(8, 0) by 60 LEFT", x.first(8, 0), 60);
        due("first(8, 1)", x.first(8, 1), 3);
        due("first(9, 0) by 59 LEFT", x.first(9, 0), 59);
        x.change(3, 1, 0);
        due("first(8, 0) by 0 LEFT", x.first(8, 0), 0);
        x.change(2, 1, 1);
        due("first(9, 0) by 1 LEFT", x.first(9, 0), 1);
        due("first(9, 1): the first, not the least of all", x.first(9, 1), 2);
        DustSills y = one(40, 4, 0);
        y.heir(0, 15, 0);
        y.heir(0, 15, 0);
        y.heir(20, 14, 0);
        due("first(0, 0)", y.first(0, 0), 1);
        due("first(0, 1): the least of three", y.first(0, 1), 1);
        due("first(15, 0)", y.first(15, 0), 0);
        due("first(14, 1)", y.first(14, 1), 3);
        DustSills z = one(40, 0, 0);
        z.heir(0, 0, 0);
        z.heir(10, 15, 0);
        due("first(0, 1): the least of two", z.first(0, 1), 0);
        due("first(15, 1)", z.first(15, 1), 2);
        z.town(0, 2);
        due("first(5, 0): on none of the other's, LORD 15, 0, 1, ..", z.first(5, 0), 6);
        due("first(5, 1)", z.first(5, 1), 2);
    }

    private static void meet() {
        says("MEET of two: behind how many DAYS (0 to 60) both are DUST AT one SILL first.");
        DustSills x = one(40, 9, 0);
        x.heir(40, 9, 60);
        x.heir(40, 9, 61);
        x.heir(40, 9, 0);
        x.heir(0, 8, 0);
        x.heir(0, 10, 0);
        due("meet(0, 3)", x.meet(0, 3), 0);
        due("meet(0, 4)", x.meet(0, 4), 1);
        due("meet(4, 0)", x.meet(4, 0), 1);
        due("meet(0, 5), once round", x.meet(0, 5), 15);
        due("meet(4, 5), never", x.meet(4, 5), NONE);
        due("meet(0, 1) by 60 LEFT", x.meet(0, 1), 60);
        due("meet(0, 2) by 61 LEFT", x.meet(0, 2), NONE);
        due("meet(1, 2), neither being DUST", x.meet(1, 2), NONE);
        x.change(1, 0, 8);
        due("meet(0, 1) of two SILLS", x.meet(0, 1), NONE);
        says("BEYOND: also one and the same.");
        due("meet(0, 0)", x.meet(0, 0), BEYOND);
        due("meet(5, 5)", x.meet(5, 5), BEYOND);
        due("meet(6, 6)", x.meet(6, 6), BEYOND);
        due("meet(5, 6)", x.meet(5, 6), BEYOND);
        due("meet(-1, 5)", x.meet(-1, 5), BEYOND);
    }

    private static void bright() {
        says("BRIGHT for one, v (0 to 9999): behind how many DAYS (0 to 60) LIT of it is v or more first.");
        DustSills x = one(40, 0, 0);
        int[][] due = {{-1, BEYOND}, {0, 0}, {1, 1}, {2, 1}, {3, 1}, {4, 2}, {177, 59}, {178, 60}, {180, 60}, {181, NONE},
            {9999, NONE}, {10000, BEYOND}};
        for (int[] d : due) {
            due("bright(0, " + d[0] + ")", x.bright(0, d[0]), d[1]);
        }
        x.change(0, 3, 50);
        due("bright(0, 49) of 50", x.bright(0, 49), 0);
        due("bright(0, 50) of 50", x.bright(0, 50), 0);
        due("bright(0, 51) of 50", x.bright(0, 51), 1);
        x.change(0, 3, 9998);
        due("bright(0, 9998)", x.bright(0, 9998), 0);
        due("bright(0, 9999), held", x.bright(0, 9999), 1);
        x.change(0, 3, 9999);
        due("bright(0, 9999)", x.bright(0, 9999), 0);
        x.change(0, 3, 0);
        x.change(0, 1, 60);
        due("bright(0, 1) by 60 LEFT", x.bright(0, 1), 60);
        x.change(0, 1, 61);
        due("bright(0, 1) by 61 LEFT", x.bright(0, 1), NONE);
    }

    private static void place() {
        says("PLACE for one by n (0 to 30): the SILL that should be its LOT (and AT which it should be, if it is DUST) now so "
            + "that LIT of it is most behind n DAYS; of several the least; LIT then.");
        DustSills x = one(40, 5, 0);
        x.change(0, 3, 77);
        due("place(0, 0, 0)", x.place(0, 0, 0), 0);
        due("place(0, 0, 1)", x.place(0, 0, 1), 77);
        due("place(0, 30, 0), all alike", x.place(0, 30, 0), 0);
        due("place(0, 30, 1), all alike", x.place(0, 30, 1), 167);
        x.sill(15, 0, 4);
        due("place(0, 1, 0) at 15", x.place(0, 1, 0), 15);
        due("place(0, 1, 1) at 15", x.place(0, 1, 1), 82);
        x.sill(14, 0, 4);
        due("place(0, 1, 0) at 14 and 15", x.place(0, 1, 0), 14);
        x.change(0, 1, 30);
        due("place(0, 29, 0) by 30 LEFT", x.place(0, 29, 0), 0);
        due("place(0, 29, 1) by 30 LEFT", x.place(0, 29, 1), 77);
        due("place(0, 30, 0) by 30 LEFT", x.place(0, 30, 0), 14);
        due("place(0, 30, 1) by 30 LEFT", x.place(0, 30, 1), 82);
        x.change(0, 1, 0);
        x.change(0, 3, 9995);
        due("place(0, 1, 0), held", x.place(0, 1, 0), 14);
        due("place(0, 1, 1), held", x.place(0, 1, 1), 9999);
        x.change(0, 3, 9996);
        due("place(0, 1, 0), held for all", x.place(0, 1, 0), 0);
        placeAsLot();
    }

    private static void placeAsLot() {
        DustSills x = one(0, 9, 0);
        layAll(x, 0);
        x.sill(2, 0, 9);
        x.town(1, 1);
        // From 1 it comes to 2, to the dark 3, is swept to 1 as its LOT, and comes to 2 again.
        due("place(0, 3, 0), swept to it", x.place(0, 3, 0), 1);
        due("place(0, 3, 1), swept to it", x.place(0, 3, 1), 18);
        DustSills y = one(30, 9, 0);
        due("place(0, 1, 0), by SILLS 0 to 15 alone", y.place(0, 1, 0), 0);
        due("place(0, 1, 1), by SILLS 0 to 15 alone", y.place(0, 1, 1), 6);
        y.sill(15, 0, 0);
        due("place(0, 1, 0), the darkest being the last", y.place(0, 1, 0), 15);
    }

    private static void cartsFor() {
        says("CARTS for a set of HEIRS by n (0 to 30): the most CARTS (0 to 9) with which all of them are CONTENT behind n DAYS.");
        DustSills x = one(0, 0, 0);
        x.heir(0, 2, 0);
        x.heir(0, 4, 30);
        due("cartsFor(0, 30) of nobody", x.cartsFor(0, 30), 9);
        due("cartsFor(1, 0)", x.cartsFor(1, 0), 9);
        due("cartsFor(1, 1) with 0 alone", x.cartsFor(1, 1), 0);
        x.sill(1, 0, 5);
        due("cartsFor(1, 1) with 1", x.cartsFor(1, 1), 1);
        x.sill(8, 0, 5);
        x.sill(9, 0, 4);
        due("cartsFor(1, 1) with 8", x.cartsFor(1, 1), 8);
        x.sill(9, 0, 5);
        due("cartsFor(1, 1) with 9", x.cartsFor(1, 1), 9);
        due("cartsFor(2, 1) with 7", x.cartsFor(2, 1), 7);
        due("cartsFor(3, 1) of both, with 0", x.cartsFor(3, 1), 0);
        due("cartsFor(4, 30) by 30 LEFT", x.cartsFor(4, 30), 9);
        due("cartsFor(4, 29) by 30 LEFT", x.cartsFor(4, 29), NONE);
        due("cartsFor(7, 29) by 30 LEFT", x.cartsFor(7, 29), NONE);
        says("NONE: with none.");
        x.become(0, 29);
        x.sill(1, 0, 2);
        layAll(x, 2);
        due("cartsFor(1, 1), by which it goes 1 to 10", x.cartsFor(1, 1), NONE);
        x.sill(1, 0, 3);
        due("cartsFor(1, 1) with 0", x.cartsFor(1, 1), 0);
        x.sill(10, 0, 3);
        due("cartsFor(1, 1) with 9", x.cartsFor(1, 1), 9);
        DustSills y = one(0, 0, 0);
        write(y, 0, "c+1");
        due("cartsFor(1, 1), CARTS being 0 at least", y.cartsFor(1, 1), NONE);
        due("odds(0, 1, 0), CARTS being 0 at least", y.odds(0, 1, 0), 0);
        write(y, 0, "10-c");
        due("cartsFor(1, 1), CARTS being 9 at most", y.cartsFor(1, 1), NONE);
        due("odds(0, 1, 0), CARTS being 9 at most", y.odds(0, 1, 0), 0);
        write(y, 0, "9-c");
        due("cartsFor(1, 1) with 9, by which none come", y.cartsFor(1, 1), 9);
        due("odds(0, 1, 1) with 9 alone", y.odds(0, 1, 1), 10);
    }

    private static void stop() {
        says("STOP for one by n (0 to 20): the SILL whose TO, were it that SILL itself now, makes LIT of it most behind n DAYS; of "
            + "several the least; -1, if none makes it more than it is.");
        DustSills x = one(0, 14, 0);
        due("stop(0, 0)", x.stop(0, 0), -1);
        due("stop(0, 20), all alike", x.stop(0, 20), -1);
        layAll(x, 0);
        x.sill(15, 0, 9);
        due("stop(0, 1), no more than it is", x.stop(0, 1), -1);
        due("stop(0, 2) at 15", x.stop(0, 2), 15);
        due("stop(0, 20) at 15", x.stop(0, 20), 15);
        x.change(0, 3, 9990);
        due("stop(0, 2), held", x.stop(0, 2), -1);
        x.change(0, 3, 9989);
        due("stop(0, 2), by 1 more", x.stop(0, 2), 15);
        x.change(0, 3, 0);
        x.change(0, 2, 15);
        due("stop(0, 1) at 15, where it is", x.stop(0, 1), 15);
        x.change(0, 2, 0);
        x.sill(0, 0, 9);
        x.sill(1, 0, 9);
        x.sill(2, 0, 9);
        due("stop(0, 2), no more than it is", x.stop(0, 2), -1);
        due("stop(0, 3) at 0, of 0, 1, 2", x.stop(0, 3), 0);
        x.sill(0, 0, 8);
        due("stop(0, 3) at 1, of 1 and 2", x.stop(0, 3), 1);
        x.change(0, 1, 20);
        due("stop(0, 20) of one with 20 LEFT", x.stop(0, 20), -1);
    }

    private static void swap() {
        says("SWAP by n (0 to 20): the two HEIRS (10 times the lesser number, and the other) that, were LOTS changed between them "
            + "now, make GLORY most behind n DAYS; of several the least; -1, if none make it more than it is.");
        due("swap(20) of nobody", new DustSills().swap(20), -1);
        due("swap(20) of one", one(0, 0, 1).swap(20), -1);
        DustSills x = new DustSills();
        for (int i = 0; i < 6; i++) {
            x.heir(40, 5, 99);
        }
        x.heir(30, 14, 1);
        x.heir(10, 15, 1);
        x.sill(14, 0, 9);
        x.sill(15, 0, 0);
        due("swap(0)", x.swap(0), -1);
        due("swap(1) of the last two", x.swap(1), 67);
        row("LOTS stay", ofHeirs(x, 2), 5, 5, 5, 5, 5, 5, 14, 15);
        // 6 and 7 alike: each had best change with one of the others, the first of which is 0.
        x.become(7, 30);
        x.sill(15, 0, 9);
        due("swap(1), of several the least", x.swap(1), 6);
        x.change(0, 0, 14);
        due("swap(1), of several the least", x.swap(1), 16);
        for (int i = 0; i < 6; i++) {
            x.change(i, 0, 15);
        }
        due("swap(1), all alike", x.swap(1), -1);
        x.change(5, 0, 2);
        due("swap(1) of 5 and 6", x.swap(1), 56);
        x.town(2, 99999);
        due("swap(1), GLORY being held", x.swap(1), -1);
        DustSills y = one(0, 0, 20);
        y.heir(30, 1, 20);
        lay(y, 1, 2);
        due("swap(19) by 20 LEFT", y.swap(19), -1);
        due("swap(20) by 20 LEFT", y.swap(20), 1);
        due("swap(21)", y.swap(21), BEYOND);
        due("swap(-1)", y.swap(-1), BEYOND);
        // The gain is in what the one gets, or in what the other gets.
        DustSills z = one(10, 0, 1);
        z.heir(10, 1, 99);
        due("swap(1), all alike", z.swap(1), -1);
        z.sill(1, 0, 4);
        due("swap(1), by the LOT that the lesser gets", z.swap(1), 1);
        z.change(0, 1, 99);
        z.change(1, 1, 1);
        due("swap(1), as it is best", z.swap(1), -1);
        z.sill(0, 0, 5);
        due("swap(1), by the LOT that the other gets", z.swap(1), 1);
    }

    private static void sunFor() {
        says("SUN for a SILL, v (0 to 9999), n (0 to 30): the least SUN (0 to 9) of it now by which GLORY is v more or above behind "
            + "n DAYS than now.");
        DustSills x = one(40, 5, 0);
        x.town(2, 7);
        int[] suns = {0, 2, 3, 3, 4, 4, 5, 5, 6, 6, 7, 7, 8, 8, 9, 9, NONE};
        for (int v = 0; v < suns.length; v++) {
            due("sunFor(5, " + v + ", 1)", x.sunFor(5, v, 1), suns[v]);
        }
        due("sunFor(4, 3, 1) of another SILL", x.sunFor(4, 3, 1), 0);
        due("sunFor(4, 4, 1) of another SILL", x.sunFor(4, 4, 1), NONE);
        due("sunFor(5, 0, 0)", x.sunFor(5, 0, 0), 0);
        due("sunFor(5, 1, 0)", x.sunFor(5, 1, 0), NONE);
        due("sunFor(5, 450, 30)", x.sunFor(5, 450, 30), 9);
        due("sunFor(5, 451, 30)", x.sunFor(5, 451, 30), NONE);
        due("sunFor(5, 9999, 30)", x.sunFor(5, 9999, 30), NONE);
        due("sunFor(5, 10000, 30)", x.sunFor(5, 10000, 30), BEYOND);
        x.town(2, 99989);
        due("sunFor(5, 10, 1), held", x.sunFor(5, 10, 1), 7);
        due("sunFor(5, 11, 1), held", x.sunFor(5, 11, 1), NONE);
        DustSills y = one(30, 5, 0);
        due("sunFor(5, 9, 1), the darkest", y.sunFor(5, 9, 1), 0);
        due("sunFor(5, 10, 1)", y.sunFor(5, 10, 1), NONE);
        write(y, 1, "99");
        for (int i = 1; i < 8; i++) {
            y.heir(40, 5, 0);
        }
        due("sunFor(5, 9999, 12): 9504", y.sunFor(5, 9999, 12), NONE);
        due("sunFor(5, 9999, 13): 10296", y.sunFor(5, 9999, 13), 0);
    }

    private static void sweepFor() {
        says("SWEEP for one by n (0 to 60): the SWEEP (1 to 30) now by which LIT of it is most behind n DAYS; of several the least.");
        DustSills x = one(40, 0, 0);
        x.sill(2, 0, 0);
        x.change(0, 2, 2);
        // In the light AT its LOT it has 3 a DAY: the sooner, the better.
        due("sweepFor(0, 0)", x.sweepFor(0, 0), 1);
        due("sweepFor(0, 1), all alike", x.sweepFor(0, 1), 1);
        due("sweepFor(0, 60)", x.sweepFor(0, 60), 1);
        write(x, 1, "s<1");
        // And the later, by a TEXT that gives 1 in the dark alone.
        due("sweepFor(0, 1), all alike", x.sweepFor(0, 1), 1);
        due("sweepFor(0, 2)", x.sweepFor(0, 2), 2);
        due("sweepFor(0, 29)", x.sweepFor(0, 29), 29);
        due("sweepFor(0, 30)", x.sweepFor(0, 30), 30);
        due("sweepFor(0, 31)", x.sweepFor(0, 31), 30);
        due("sweepFor(0, 60)", x.sweepFor(0, 60), 30);
        write(x, 1, "s<1&d=1");
        due("sweepFor(0, 20), 1 and not 0", x.sweepFor(0, 20), 2);
        write(x, 1, "s<1");
        x.days(1);
        due("sweepFor(0, 28) from DAY 1", x.sweepFor(0, 28), 29);
        due("sweepFor(0, 30) from DAY 1", x.sweepFor(0, 30), 30);
    }

    private static void whence() {
        says("WHENCE of one: a SHEET tells AT of it behind 1, 2, .. DAYS: by which KINDS (0 to 6; m as it is) with which SILLS, were "
            + "it DUST AT that now, that is so: how many; the first, by KIND, then by SILL, told as 100 times the KIND, and the "
            + "SILL.");
        DustSills x = one(9, 3, 5);
        fill(x, 0, 8);
        due("whence by no numbers", x.whence(0, 0, 0), 112);
        due("whence by no numbers", x.whence(0, 0, 1), 0);
        x.town(0, 2);
        // By 2 CARTS: HEIR 2, 2, ..; LORD 1; BARBER 3; AUNT 0, 2, .. and 0; GENERAL 0; CLERK 3 and 9; GIRL 1, 2, .. and 1.
        fill(x, 0, 8, 0, 2, 4, 6, 8, 10, 12);
        due("whence by 7 numbers: HEIR, AUNT, GIRL", x.whence(0, 0, 0), 3);
        due("whence by 7 numbers: HEIR", x.whence(0, 0, 1), 14);
        fill(x, 0, 8, 0, 2, 4, 6, 8, 10, 12, 12);
        due("whence by 8 numbers: AUNT", x.whence(0, 0, 0), 1);
        due("whence by 8 numbers: AUNT", x.whence(0, 0, 1), 300);
        fill(x, 0, 8, 0, 2, 4, 6, 8, 10, 12, 13);
        due("whence by 8 numbers: GIRL", x.whence(0, 0, 0), 1);
        due("whence by 8 numbers: GIRL, the greatest", x.whence(0, 0, 1), 615);
        fill(x, 1, 16, 12, 15);
        due("whence by m: CLERK, 3 + 9 and 3; BARBER", x.whence(1, 0, 0), 2);
        due("whence by m: BARBER", x.whence(1, 0, 1), 209);
        fill(x, 1, 16, 12, 15, 2, 5, 8, 4);
        due("whence by m: CLERK, 9 more on DAY 5", x.whence(1, 0, 1), 500);
        x.become(0, 8);
        fill(x, 1, 16, 12, 15, 2, 5, 8, 3);
        due("whence by m 8: CLERK", x.whence(1, 0, 1), 501);
        for (int v : new int[] {-1, 16, 255, 256 + 3, MIN, MAX}) {
            fill(x, 2, 32, v);
            due("whence by " + v + ", which is no SILL", x.whence(2, 0, 0), 0);
            due("whence by " + v + ", which is no SILL", x.whence(2, 0, 1), NONE);
        }
        row("of it", new int[] {x.ofHeir(0, 0), x.ofHeir(0, 3), x.ofHeir(0, 4)}, 0, 5, -1);
        longWhence();
    }

    private static void longWhence() {
        DustSills x = one(0, 3, 50);
        x.sheet(0, 32, 40);
        for (int i = 0; i < 40; i++) {
            x.put(0, i, 5);
        }
        due("whence by 40 numbers: LORD and GENERAL", x.whence(0, 0, 0), 2);
        due("whence by 40 numbers: LORD", x.whence(0, 0, 1), 105);
        x.put(0, 39, 6);
        due("whence by 40 numbers, the last other", x.whence(0, 0, 0), 0);
        says("NONE: the SHEET is missing; (what 1) there is none.");
        due("whence of none, what 1", x.whence(0, 0, 1), NONE);
        x.sheet(0, 0, 0);
        due("whence of a missing SHEET, what 0", x.whence(0, 0, 0), NONE);
        due("whence of a missing SHEET, what 1", x.whence(0, 0, 1), NONE);
        x.sheet(0, 8, 0);
        due("whence of an empty SHEET", x.whence(0, 0, 1), 0);
        // Were it DUST, 1 would be: so many CARTS come.
        write(x, 0, "p*4");
        fill(x, 0, 8, 4);
        due("whence by who is DUST: HEIR by 4", x.whence(0, 0, 1), 0);
    }

    private static void bareAndCrowd() {
        says("BARE behind n DAYS: SILLS AT which nobody is that is DUST, as a set.");
        DustSills x = one(40, 0, 0);
        x.heir(40, 15, 60);
        due("bare(0)", x.bare(0), 65534);
        due("bare(59)", x.bare(59), 65534);
        due("bare(60)", x.bare(60), 32766);
        due("bare(61)", x.bare(61), BEYOND);
        says("CROWD behind n DAYS: the SILL AT which most are (that are DUST); of several the least; how many.");
        due("crowd(59, 0)", x.crowd(59, 0), 0);
        due("crowd(60, 0) of two alike", x.crowd(60, 0), 0);
        due("crowd(60, 1) of two alike", x.crowd(60, 1), 1);
        x.heir(40, 15, 0);
        due("crowd(59, 0)", x.crowd(59, 0), 0);
        due("crowd(59, 1)", x.crowd(59, 1), 1);
        due("crowd(60, 0)", x.crowd(60, 0), 15);
        due("crowd(60, 1)", x.crowd(60, 1), 2);
        x.heir(40, 0, 0);
        due("crowd(60, 0), of two alike", x.crowd(60, 0), 0);
        DustSills y = new DustSills();
        for (int i = 0; i < 8; i++) {
            y.heir(40, 8 + i, 0);
        }
        due("bare(60), eight left", y.bare(60), 255);
        due("crowd(60, 0), of eight alike", y.crowd(60, 0), 8);
        for (int i = 0; i < 8; i++) {
            y.change(i, 2, 15);
        }
        due("bare(0) but 15", y.bare(0), 32767);
        due("crowd(0, 0)", y.crowd(0, 0), 15);
        due("crowd(0, 1) of all", y.crowd(0, 1), 8);
        y.change(7, 1, 1);
        due("crowd(0, 1) of those that are DUST", y.crowd(0, 1), 7);
    }

    private static void lightAndLate() {
        says("LIGHT by n (0 to 60): by how much GLORY is more.");
        DustSills x = one(40, 0, 60);
        x.town(2, 99996);
        due("light(0)", x.light(0), 0);
        due("light(59) by 60 LEFT", x.light(59), 0);
        due("light(60) by 60 LEFT", x.light(60), 3);
        x.town(2, 99997);
        due("light(60), held", x.light(60), 2);
        x.town(2, 99999);
        due("light(60), held", x.light(60), 0);
        says("LATE of a set: behind how many DAYS (0 to 60) all of it are DUST first.");
        DustSills y = one(0, 0, 0);
        int[] left = {1, 2, 59, 60, 61, 99, 0};
        for (int l : left) {
            y.heir(0, 0, l);
        }
        int[][] late = {{0, 0}, {1, 0}, {2, 1}, {4, 2}, {6, 2}, {7, 2}, {8, 59}, {16, 60}, {31, 60}, {32, NONE}, {64, NONE}, {63, NONE},
            {128, 0}, {129, 0}, {130, 1}, {255, NONE}, {159, 60}, {256, BEYOND}, {-1, BEYOND}};
        for (int[] l : late) {
            due("late(" + l[0] + ")", y.late(l[0]), l[1]);
        }
        y.days(1);
        due("late(32) a DAY on", y.late(32), 60);
        due("late(16) a DAY on", y.late(16), 59);
        y.change(0, 1, 60);
        due("late(1) by 60 LEFT", y.late(1), 60);
        y.change(0, 1, 61);
        due("late(1) by 61 LEFT", y.late(1), NONE);
    }

    private static void odds() {
        says("ODDS: that one is CONTENT behind n DAYS (0 to 60), CARTS being 0, 1, .. 9, each just as likely: a fraction in lowest "
            + "terms (0 is 0 by 1).");
        DustSills x = one(0, 0, 0);
        int[][] want = {{1, 10}, {1, 5}, {3, 10}, {2, 5}, {1, 2}, {3, 5}, {7, 10}, {4, 5}, {9, 10}, {1, 1}};
        for (int good = 1; good <= 10; good++) {
            due("odds(0, 1, 0) of " + good, x.odds(0, 1, 0), want[good - 1][0]);
            due("odds(0, 1, 1) of " + good, x.odds(0, 1, 1), want[good - 1][1]);
            x.sill(good, 0, 5);
        }
        x.change(0, 1, 60);
        due("odds(0, 59, 0) by 60 LEFT", x.odds(0, 59, 0), 0);
        due("odds(0, 59, 1) by 60 LEFT", x.odds(0, 59, 1), 1);
        due("odds(0, 60, 0) by 60 LEFT", x.odds(0, 60, 0), 1);
        due("odds(0, 60, 1) by 60 LEFT", x.odds(0, 60, 1), 1);
        due("odds(0, 0, 0) of no DUST", x.odds(0, 0, 0), 0);
        due("odds(0, 0, 1) of no DUST", x.odds(0, 0, 1), 1);
        due("CARTS", x.count(2), 1);
    }

    // ---- draws, voices

    private static void draws() {
        says("z is told (1 at first); each makes it z * 1103515245 + 12345 (an int), and gives z >>> 8. Each: a draw: CARTS are its "
            + "rest by 6; another draw: if 4 divides it, TO of the SILL that is the rest by 16 of a fourth of it (cut) becomes the "
            + "one that is the rest by 16 of a 64th of it (cut); then a DAY.");
        due("z at first", new DustSills().count(10), 1);
        int seenCarts = 0;
        int seenRests = 0;
        int seenSigns = 0;
        for (int i = 0; i < 60; i++) {
            int seed = i == 0 ? MIN : i == 1 ? MAX : i == 2 ? -1 : i - 3;
            int z = seed * 1103515245 + 12345;
            int carts = Integer.remainderUnsigned(z >>> 8, 6);
            int sign = z < 0 ? 1 : 2;
            z = z * 1103515245 + 12345;
            int drawn = z >>> 8;
            DustSills x = one(0, 0, 0);
            x.seed(seed);
            x.loose(1);
            due("CARTS from " + seed, x.count(2), carts);
            due("z from " + seed, x.count(10), z);
            for (int s = 0; s < 16; s++) {
                boolean carried = (drawn & 3) == 0 && (drawn >> 2 & 15) == s;
                due("TO of " + s + " from " + seed, x.ofSill(s, 1), carried ? drawn >> 6 & 15 : (s + 1) % 16);
            }
            due("DAY from " + seed, x.count(1), 1);
            seenCarts |= 1 << carts;
            seenRests |= 1 << (drawn & 3);
            seenSigns |= sign | (z < 0 ? 4 : 8);
        }
        due("CARTS of each number were drawn", seenCarts, 63);
        due("each rest by 4 was drawn", seenRests, 15);
        due("z was below and above 0", seenSigns, 15);
    }

    /** What a VOICE is, worked out at one go. */
    private static int said(int kind, int n, int m, int act, int x) {
        int lies = kind == 1 || kind == 4 ? (x + n) * 3 : x + n;
        int shines = kind == 2 ? lies * 2 - (1 - m) : kind == 5 ? (lies + 1) * 2 - (1 - m) : lies * 2;
        int drifts = kind == 3 ? m - x : kind == 6 ? m - x ^ n : x - m;
        int tells = shines ^ drifts;
        if (kind == 4) {
            tells -= (2 + n) * 3;
        } else if (kind == 6) {
            tells = shines - tells;
        }
        return new int[] {lies, shines, drifts, tells}[act];
    }

    private static void voices() {
        says("VOICES of a HEIR, with a number x (ints that go round); n is the number, m as told");
        int[] far = {MIN, MIN + 1, -1, 0, 1, MAX - 1, MAX, 1 << 30, -(1 << 30) - 1};
        for (int kind = 0; kind < 7; kind++) {
            DustSills x = new DustSills();
            for (int n = 0; n < 8; n++) {
                x.heir(10 * kind + (n == 0 ? 9 : n == 7 ? 0 : n), 0, n);
            }
            for (int n : new int[] {0, 1, 7}) {
                for (int act = 0; act < 4; act++) {
                    for (int v : far) {
                        due("voice(" + n + ", " + act + ", " + v + ") of KIND " + kind, x.voice(n, act, v),
                            said(kind, n, n == 0 ? 9 : n == 7 ? 0 : n, act, v));
                    }
                }
            }
            row("told", errors(x), 0, 0, 0, 0, 0);
        }
    }

    private static void bodies() {
        says("BODIES: HEIR: 10 lies: x + n. 11 shines: lies(x) * 2. 12 drifts: x - m. 13 tells: shines(x) ^ drifts(x). LORD: 20 lies: "
            + "super.lies(x) * 3. BARBER: 30 shines: super.shines(x) - drifts(1). AUNT: 40 drifts: -super.drifts(x). GENERAL: 50 "
            + "tells: super.tells(x) - lies(2). CLERK: 60 shines: super.shines(x + 1). GIRL: 70 drifts: super.drifts(x) ^ n. 71 "
            + "tells: shines(x) - super.tells(x). lies(..) is the BODY of its KIND, or of the next KIND above that has one; "
            + "super.lies(..) that from the KIND above the BODY's on.");
        String[][] want = {
            {"10", "11 10", "12", "13 11 10 12"},
            {"20 10", "11 20 10", "12", "13 11 20 10 12"},
            {"10", "30 11 10 12", "12", "13 30 11 10 12 12"},
            {"10", "11 10", "40 12", "13 11 10 40 12"},
            {"20 10", "11 20 10", "12", "50 13 11 20 10 12 20 10"},
            {"10", "60 30 11 10 12", "12", "13 60 30 11 10 12 12"},
            {"10", "11 10", "70 40 12", "71 11 10 13 11 10 70 40 12"}};
        for (int kind = 0; kind < 7; kind++) {
            DustSills x = one(10 * kind, 0, 0);
            for (int act = 0; act < 4; act++) {
                x.voice(0, act, 1);
                String[] bodies = want[kind][act].split(" ");
                String of = " of KIND " + kind + ", act " + act;
                due("BODIES" + of, x.count(9), bodies.length);
                for (int i = 0; i < bodies.length; i++) {
                    due("trace(" + i + ")" + of, x.trace(i), Integer.parseInt(bodies[i]));
                }
                due("trace(" + bodies.length + ")" + of, x.trace(bodies.length), NONE);
            }
        }
    }

    private static void traces() {
        says("THE TRACE: the numbers of BODIES of the latest voice(), as they began (what stands left is worked out first), the first "
            + "40.");
        DustSills x = one(60, 0, 0);
        due("BODIES ahead", x.count(9), 0);
        due("trace(0) ahead", x.trace(0), NONE);
        x.voice(0, 3, 0);
        due("BODIES, the most that any has", x.count(9), 9);
        int[] bodies = {71, 11, 10, 13, 11, 10, 70, 40, 12};
        for (int i = 0; i < bodies.length; i++) {
            due("trace(" + i + ")", x.trace(i), bodies[i]);
        }
        says("THE TRACE's i-th. NONE: there is none such.");
        due("trace(9)", x.trace(9), NONE);
        due("trace(39)", x.trace(39), NONE);
        due("trace(40)", x.trace(40), NONE);
        due("trace(-1)", x.trace(-1), NONE);
        due("voice(0, 4, 0)", x.voice(0, 4, 0), BEYOND);
        due("voice(1, 0, 0)", x.voice(1, 0, 0), BEYOND);
        due("BODIES, still", x.count(9), 9);
        due("trace(0), still", x.trace(0), 71);
        x.voice(0, 0, 0);
        due("BODIES, the least", x.count(9), 1);
        due("trace(0)", x.trace(0), 10);
        due("trace(1)", x.trace(1), NONE);
    }

    // ---- sheets

    private static void sheets() {
        says("SHEETS 0 .. 3 are rows of 8, 16, 32 bits, at most 40 numbers, or missing (as at first).");
        DustSills x = new DustSills();
        for (int s = 0; s < 4; s++) {
            due("put(s, 0, 0), missing", x.put(s, 0, 0), NONE);
        }
        due("sheet(-1, 8, 1)", x.sheet(-1, 8, 1), BEYOND);
        due("sheet(4, 8, 1)", x.sheet(4, 8, 1), BEYOND);
        int[] noBits = {MIN, -32, -8, -1, 1, 2, 4, 7, 9, 15, 17, 24, 31, 33, 64, 128, MAX};
        for (int bits : noBits) {
            due("sheet(0, " + bits + ", 1)", x.sheet(0, bits, 1), BEYOND);
        }
        due("put(0, 0, 0), missing still", x.put(0, 0, 0), NONE);
        says("A SHEET has n numbers, all 0, of so many bits (8, 16, 32; 0: it is missing, n doesn't matter): 1.");
        for (int bits = 8; bits <= 32; bits *= 2) {
            for (int n : new int[] {0, 1, 39, 40}) {
                due("sheet(3, " + bits + ", " + n + ")", x.sheet(3, bits, n), 1);
                due("put at the end", x.put(3, n, 9), BEYOND);
                due("put ahead of the end", x.put(3, n - 1, 9), n == 0 ? BEYOND : 1);
                due("suns(3)", x.suns(3), Math.min(n, 16));
            }
            due("sheet(3, " + bits + ", 41)", x.sheet(3, bits, 41), BEYOND);
            due("put(3, 39, 9), still there", x.put(3, 39, 9), 1);
        }
        x.sheet(3, 8, 1);
        due("SUN of 0: all 0", x.ofSill(0, 0), 0);
        for (int n : new int[] {0, 40, 41, -1, MIN, MAX}) {
            x.sheet(3, 8, 1);
            due("sheet(3, 0, " + n + ")", x.sheet(3, 0, n), 1);
            due("put(3, 0, 0), missing", x.put(3, 0, 0), NONE);
        }
        says("STATE: n is below 0 (ahead of BEYOND of n).");
        due("sheet(3, 8, -1)", x.sheet(3, 8, -1), STATE);
        due("sheet(3, 16, MIN)", x.sheet(3, 16, MIN), STATE);
        due("sheet(3, 32, MAX)", x.sheet(3, 32, MAX), BEYOND);
        due("sheet(3, 9, -1), of no such bits", x.sheet(3, 9, -1), BEYOND);
        due("sheet(4, 8, -1), of no such SHEET", x.sheet(4, 8, -1), BEYOND);
        due("put(3, 0, 0), missing still", x.put(3, 0, 0), NONE);
    }

    /** Whether number 0 of a SHEET, being put so, is 5. */
    private static void putAsFive(DustSills x, int bits, int v, boolean is) {
        x.sheet(0, bits, 1);
        x.put(0, 0, v);
        due(v + " of " + bits + " bits is 5", x.judge(0), is ? -1 : 0);
    }

    private static void puts() {
        says("Number i of a SHEET becomes v (its lowest bits): 1.");
        DustSills x = one(0, 5, 0);
        int[][] same = {{5}, {8, 261, 65541, -251, MIN + 5}, {16, 65541, -65531, MIN + 5}, {32, 5}};
        for (int[] row : same) {
            for (int i = 1; i < row.length; i++) {
                putAsFive(x, row[0], row[i], true);
            }
        }
        int[][] other = {{8, 4, 6, 133, -123, 5 << 8, 69, 37}, {16, 261, 32773, -32763, 5 << 16, 5 << 8, 4101},
            {32, 261, 65541, -251, MIN + 5, (1 << 30) + 5}};
        for (int[] row : other) {
            for (int i = 1; i < row.length; i++) {
                putAsFive(x, row[0], row[i], false);
            }
        }
        says("BEYOND: no such SHEET. NONE: it is missing. BEYOND: no such number.");
        due("put(4, 0, 5)", x.put(4, 0, 5), BEYOND);
        due("put(1, 99, 5), missing", x.put(1, 99, 5), NONE);
        x.sheet(1, 8, 0);
        due("put(1, 0, 5), empty", x.put(1, 0, 5), BEYOND);
        x.sheet(1, 8, 40);
        due("put(1, 0, 5)", x.put(1, 0, 5), 1);
        due("put(1, 39, 5)", x.put(1, 39, 5), 1);
        due("put(1, 40, 5)", x.put(1, 40, 5), BEYOND);
        due("put(1, -1, 5)", x.put(1, -1, 5), BEYOND);
    }

    private static void moves() {
        says("n numbers of a SHEET, from number i on, come to another one (or the same), from its number j on, as they all were: n.");
        DustSills x = new DustSills();
        fill(x, 0, 16, 1, 2, 3, 4, 5);
        fill(x, 1, 16, 9, 9, 9);
        due("move of none", x.move(0, 0, 1, 0, 0), 0);
        due("move of none, at both ends", x.move(0, 5, 1, 3, 0), 0);
        x.suns(1);
        row("as it was", suns(x, 3), 9, 9, 9);
        due("move of one, the last to the last", x.move(0, 4, 1, 2, 1), 1);
        x.suns(1);
        row("SHEET 1", suns(x, 3), 9, 9, 5);
        due("move of all that fit", x.move(0, 2, 1, 0, 3), 3);
        x.suns(1);
        row("SHEET 1", suns(x, 3), 3, 4, 5);
        due("move of one more, that does not stand there", x.move(0, 2, 1, 0, 4), BEYOND);
        due("move to where there is no room", x.move(0, 2, 1, 1, 3), BEYOND);
        due("move from where too few stand", x.move(0, 3, 1, 0, 3), BEYOND);
        due("move within, upward", x.move(0, 0, 0, 1, 4), 4);
        x.suns(0);
        row("SHEET 0", suns(x, 5), 1, 1, 2, 3, 4);
        due("move within, downward", x.move(0, 1, 0, 0, 4), 4);
        x.suns(0);
        row("SHEET 0", suns(x, 5), 1, 2, 3, 4, 4);
        due("move to itself", x.move(0, 0, 0, 0, 5), 5);
        due("move to itself of one more", x.move(0, 0, 0, 0, 6), BEYOND);
        x.suns(0);
        row("SHEET 0", suns(x, 5), 1, 2, 3, 4, 4);
        movesOfForty();
    }

    private static void movesOfForty() {
        DustSills x = new DustSills();
        x.sheet(2, 32, 40);
        x.sheet(3, 32, 40);
        x.put(2, 0, 1);
        x.put(2, 39, 8);
        due("move of 40", x.move(2, 0, 3, 0, 40), 40);
        due("move of 41", x.move(2, 0, 3, 0, 41), BEYOND);
        due("move of the last to the first", x.move(3, 39, 3, 0, 1), 1);
        x.suns(3);
        due("the last came", x.ofSill(0, 0), 8);
        says("KIND: they are of unlike bits.");
        int[] bits = {8, 16, 32};
        for (int a : bits) {
            for (int b : bits) {
                x.sheet(0, a, 1);
                x.sheet(1, b, 1);
                due("move of " + a + " to " + b, x.move(0, 0, 1, 0, 1), a == b ? 1 : KIND);
                due("move of " + a + " to " + b + " of -1", x.move(0, 0, 1, 0, -1), a == b ? BEYOND : KIND);
            }
        }
    }

    private static void sunsOfSheets() {
        says("Numbers of a SHEET become SUN of SILLS 0, 1, ..: how many, up to the first that is not 0 to 9 (no ERROR then), or for "
            + "which there is no SILL.");
        DustSills x = new DustSills();
        fill(x, 0, 32);
        due("suns of nothing", x.suns(0), 0);
        fill(x, 0, 32, 0, 9, 0, 9);
        due("suns of the least and the greatest", x.suns(0), 4);
        row("SUN", suns(x, 5), 0, 9, 0, 9, 3);
        int[] off = {-1, 10, MIN, MAX, 255, 256};
        for (int v : off) {
            fill(x, 0, 32, 7, v, 7);
            due("suns up to " + v, x.suns(0), 1);
            row("SUN", suns(x, 5), 7, 9, 0, 9, 3);
            fill(x, 0, 32, v, 7);
            due("suns up to " + v + ", the first", x.suns(0), 0);
        }
        fill(x, 1, 8, 6, 255);
        due("suns of 8 bits", x.suns(1), 1);
        fill(x, 1, 16, 5, 65535);
        due("suns of 16 bits", x.suns(1), 1);
        for (int n = 15; n <= 17; n++) {
            layAll(x, 3);
            x.sheet(2, 8, n);
            due("suns of " + n, x.suns(2), Math.min(n, 16));
            due("SUN of 15", x.ofSill(15, 0), n == 15 ? 3 : 0);
        }
        x.put(2, 16, 10);
        due("suns of 16, and one that is no SUN", x.suns(2), 16);
        x.put(2, 15, 10);
        due("suns of 15, and one that is no SUN", x.suns(2), 15);
        x.sheet(2, 8, 40);
        due("suns of 40", x.suns(2), 16);
        row("told", errors(x), 0, 0, 0, 0, 0);
    }

    private static void judging() {
        says("Numbers of a SHEET are LOTS of HEIRS 0, 1, ..: the first that isn't so (one that lacks, or is too many, too); -1: all are.");
        DustSills x = new DustSills();
        x.sheet(0, 8, 40);
        due("40 of nobody", x.judge(0), 0);
        for (int i = 0; i < 8; i++) {
            x.heir(0, 0, i);
            due("40 of " + (i + 1), x.judge(0), i + 1);
        }
        for (int n = 0; n <= 9; n++) {
            x.sheet(1, 32, n);
            due(n + " of 8", x.judge(1), n == 8 ? -1 : Math.min(n, 8));
        }
        x.sheet(1, 32, 8);
        x.change(7, 0, 15);
        due("the last isn't so", x.judge(1), 7);
        x.put(1, 7, 15);
        due("all are", x.judge(1), -1);
        x.put(1, 0, 1);
        due("the first isn't so", x.judge(1), 0);
        x.put(1, 0, 16);
        due("the first is no SILL", x.judge(1), 0);
        x.put(1, 0, -1);
        due("the first is no SILL", x.judge(1), 0);
        row("told", errors(x), 0, 0, 0, 0, 0);
    }

    // ---- images, what is told

    private static void images() {
        DustSills x = new DustSills();
        says("NONE: there is none.");
        due("restore() of none", x.restore(), NONE);
        says("All is as the IMAGE has it, which stays: DAY.");
        x.image();
        for (int i = 0; i < 8; i++) {
            x.heir(60 + i, i, 0);
        }
        x.loose(40);
        feedAll(x, "1+1");
        x.tell(3);
        due("restore()", x.restore(), 0);
        row("count", counts(x), 0, 0, 1, 7, 0, 48, 0, 0, 0, 0, 1);
        due("heir(35, 2, 0), as a new one", x.heir(35, 2, 0), 0);
        row("of it", new int[] {x.ofHeir(0, 0), x.ofHeir(0, 1), x.ofHeir(0, 2), x.ofHeir(0, 3), x.ofHeir(0, 4), x.ofHeir(0, 5)},
            3, 5, 2, 0, 2, 0);
        for (int s = 0; s < 16; s++) {
            due("TO", x.ofSill(s, 1), (s + 1) % 16);
        }
        for (int i = 0; i < 20; i++) {
            x.tell(6 * i + 6);
        }
        feedAll(x, "s+l*3+s+l*3+s+l*3+s+l*3+s+l*3+s+l*3+s+l*3+s+l*3+s+");
        due("image() of all that is full", x.image(), 2);
        due("check()", x.check(), 0);
        due("text(1)", x.text(1), -60);
        due("restore()", x.restore(), 0);
        due("numbers that wait", x.count(8), 20);
        due("bytes", x.count(7), 50);
        due("tell(1)", x.tell(1), FULL);
        due("feed(1, 1)", x.feed(1, 1), FULL);
        due("check(), as ahead", x.check(), 0);
        due("restore(), as often as one likes", x.restore(), 0);
        due("numbers that wait", x.count(8), 20);
        due("image()", x.image(), 3);
        row("told", errors(x), 0, 1, 0, 2, 0);
    }

    private static void imagesKeep() {
        says("All (but SHEETS, THE TRACE, what told() tells, and how often this was done) is kept as an IMAGE, in place of one "
            + "ahead: how often that was done.");
        DustSills x = one(0, 0, 0);
        fill(x, 0, 8, 1);
        x.voice(0, 3, 0);
        due("image()", x.image(), 1);
        fill(x, 0, 16, 2, 3);
        fill(x, 1, 8, 4);
        x.voice(0, 0, 0);
        x.ofSill(16, 0);
        x.restore();
        due("SHEET 0 as it is now", x.suns(0), 2);
        row("SUN", suns(x, 2), 2, 3);
        due("SHEET 1 as it is now", x.suns(1), 1);
        due("BODIES of the latest voice()", x.count(9), 1);
        due("told(1)", x.told(1), 1);
        write(x, 0, "7");
        write(x, 1, "8");
        feedAll(x, "l+s*4");
        layAll(x, 3);
        x.tell(8);
        x.tell(16);
        due("image()", x.image(), 2);
        due("check()", x.check(), 0);
        x.tell(9);
        x.tell(9);
        x.text(1);
        due("text c+1", write(x, 0, "c+1"), 1);
        due("text l+s+d", write(x, 1, "l+s+d"), 1);
        feedAll(x, "d-d-d-d-d");
        x.restore();
        row("laws, shorter again", new int[] {x.law(0, 1, 1, 1), x.law(1, 1, 1, 1)}, 7, 8);
        due("bytes", x.count(7), 5);
        due("text of the bytes that were", x.text(1), 1);
        due("law of it", x.law(1, 1, 2, 3), 9);
        x.restore();
        due("numbers that wait", x.count(8), 2);
        due("check() of those that waited", x.check(), 0);
        row("laws", new int[] {x.law(0, 1, 1, 1), x.law(1, 1, 1, 1)}, 7, 8);
        pass(x, 9999);
        due("image() on DAY 9999", x.image(), 3);
        due("restore(), DAY", x.restore(), 9999);
        due("days(1)", x.days(1), STATE);
    }

    private static void waiting() {
        says("One more number waits: how many. FULL: 20 wait.");
        DustSills x = one(40, 0, 0);
        for (int i = 1; i <= 20; i++) {
            due("tell, the " + i + "th", x.tell(3 * i), i);
        }
        due("tell, the 21st", x.tell(63), FULL);
        due("numbers that wait", x.count(8), 20);
        says("The numbers that wait (none do then) are GLORY behind 1, 2, .. DAYS: 0; else 1 and the place (from 0) of the first that "
            + "isn't so.");
        due("check() of 20", x.check(), 0);
        due("numbers that wait", x.count(8), 0);
        due("check() of none", x.check(), 0);
        for (int bad = 0; bad < 20; bad++) {
            for (int i = 0; i < 20; i++) {
                x.tell(i >= bad ? 0 : 3 * i + 3);
            }
            due("check(), the " + bad + "th not being so", x.check(), bad + 1);
            due("numbers that wait", x.count(8), 0);
        }
        DustSills y = one(40, 0, 0);
        y.tell(0);
        due("check() of GLORY now", y.check(), 1);
        y.tell(MIN);
        due("check() of MIN", y.check(), 1);
        y.town(2, 99995);
        y.tell(99998);
        y.tell(99999);
        y.tell(99999);
        due("check(), held", y.check(), 0);
        y.tell(99998);
        y.tell(100001);
        due("check(), held", y.check(), 2);
        pass(y, 9999);
        y.tell(99999);
        due("check() beyond DAY 9999", y.check(), 0);
        due("DAY", y.count(1), 9999);
    }

    private static void countsAtTheirEnds() {
        says("0 HEIRS, 1 DAY, 2 CARTS, 3 SWEEP, 4 GLORY, 5 SUN of all SILLS, 6 LIT of all together, 7 bytes of THE TAPE, 8 numbers that "
            + "wait, 9 BODIES in THE TRACE, 10 z (any number).");
        DustSills x = new DustSills();
        layAll(x, 0);
        x.town(0, 0);
        x.town(1, 1);
        x.seed(MIN);
        row("count, the least", counts(x), 0, 0, 0, 1, 0, 0, 0, 0, 0, 0, MIN);
        layAll(x, 9);
        x.town(0, 9);
        x.town(1, 30);
        x.town(2, 99999);
        x.seed(MAX);
        pass(x, 9999);
        for (int i = 0; i < 8; i++) {
            x.heir(69, 0, 0);
            x.change(i, 3, 9999);
        }
        feedAll(x, "0".repeat(50));
        for (int i = 0; i < 20; i++) {
            x.tell(i);
        }
        x.voice(7, 3, 0);
        row("count, the most", counts(x), 8, 9999, 9, 30, 99999, 144, 79992, 50, 20, 9, MAX);
        says("z becomes v: what it was (any number).");
        due("seed(MIN)", x.seed(MIN), MAX);
        due("seed(0)", x.seed(0), MIN);
        due("seed(LOW - 3)", x.seed(STATE), 0);
        due("count(10)", x.count(10), STATE);
        due("seed(1)", x.seed(1), STATE);
        row("told", errors(x), 0, 0, 0, 0, 0);
    }

    private static void tellingErrors() {
        says("How many acts have answered an ERROR LOW - k (k 1 .. 5); BEYOND: another k (counted, too).");
        DustSills x = one(0, 0, 1);
        int[] off = {0, 6, -1, MIN, MAX, LOW - 1};
        for (int i = 0; i < off.length; i++) {
            due("told(1)", x.told(1), i);
            due("told(" + off[i] + ")", x.told(off[i]), BEYOND);
        }
        due("told(1)", x.told(1), off.length);
        due("told(1), which is no ERROR", x.told(1), off.length);
        for (int i = 1; i <= 4; i++) {
            x.restore();
            due("told(2)", x.told(2), i);
            x.change(0, 2, 0);
            due("told(3)", x.told(3), i);
            x.as(0, 1);
            due("told(5)", x.told(5), i);
        }
        feedAll(x, "0".repeat(50));
        for (int i = 1; i <= 4; i++) {
            x.feed(0, 1);
            due("told(4)", x.told(4), i);
        }
        row("told", errors(x), off.length, 4, 4, 4, 4);
        // -1, -10 and below, a FAULT, and any number are no ERRORS.
        x.text(0);
        x.swap(0);
        x.stop(0, 0);
        x.ofHeir(0, 4);
        x.seed(LOW - 1);
        x.seed(LOW - 2);
        x.count(10);
        x.voice(0, 0, LOW - 5);
        row("told", errors(x), off.length, 4, 4, 4, 4);
    }

    public static void main(String[] args) {
        nobody();
        sets();
        ofOne();
        changes();
        becoming();
        feeding();
        reading();
        lastDays();
        behind();
        first();
        meet();
        bright();
        place();
        cartsFor();
        stop();
        swap();
        sunFor();
        sweepFor();
        whence();
        bareAndCrowd();
        lightAndLate();
        odds();
        draws();
        voices();
        bodies();
        traces();
        sheets();
        puts();
        moves();
        sunsOfSheets();
        judging();
        images();
        imagesKeep();
        waiting();
        countsAtTheirEnds();
        tellingErrors();
        end("each sentence of Terms 3 and 4 and of the promises holds at its edges");
    }
}
