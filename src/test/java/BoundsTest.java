import java.util.ArrayList;
import java.util.Arrays;
import java.util.List;
import java.util.function.Supplier;
import java.util.function.ToIntFunction;

/**
 * For each argument of each call the least and the greatest that are taken, with what is answered there, and what is too
 * small and too large; which ERROR comes first; and that an ERROR changes nothing but what told() tells.
 */
public final class BoundsTest extends Hands {
    private static final int VIEWS = 3;

    /** A call by one of its arguments. */
    private interface Act {
        int with(DustSills x, int v);
    }

    // ---- objects

    /** HEIRS that are DUST AT the LOTS 0, 1, .. by no CARTS, the last a GIRL that is none; THE TAPE is 1. */
    private static DustSills plain(int people) {
        DustSills x = new DustSills();
        for (int i = 0; i < people - 1; i++) {
            x.heir(i, i, 0);
        }
        x.heir(69, people - 1, 99);
        x.town(0, 0);
        x.feed('1', 1);
        x.voice(0, 3, 0);
        x.sheet(0, 8, 5);
        x.sheet(1, 8, 3);
        x.sheet(2, 8, 0);
        x.sheet(3, 8, 1);
        return x;
    }

    /** An object in which nothing is as at first and all is full, so that a change anywhere shows. */
    private static DustSills busy() {
        DustSills x = new DustSills();
        for (int i = 0; i < 8; i++) {
            x.heir(10 * (i % 7) + i, 15 - i, i == 7 ? 90 : i == 6 ? 0 : i % 3);
        }
        for (int i = 0; i < 16; i++) {
            x.sill(i, 0, i * 7 % 10);
            x.sill(i, 1, (i * 5 + 2) % 16);
        }
        x.town(0, 3);
        x.town(1, 4);
        x.town(2, 70);
        write(x, 0, "c");
        write(x, 1, "l+1");
        feedAll(x, "s*2");
        x.tell(7);
        x.image();
        x.loose(7);
        x.voice(6, 3, 77);
        fill(x, 0, 8, 2, 4, 6);
        x.sheet(1, 32, 40);
        x.put(1, 0, 5);
        x.put(1, 39, 8);
        x.sheet(2, 8, 0);
        for (int i = 1; i < 20; i++) {
            x.tell(i);
        }
        feedAll(x, "+1+1+1+1+1+1+1+1+1+1+1+1+1+1+1+1+1+1+1+1+1+1+1");
        return x;
    }

    private static DustSills old() {
        DustSills x = busy();
        pass(x, 9999 - x.count(1));
        return x;
    }

    // ---- looking

    private static void look(DustSills x, List<Integer> all) {
        for (int i = 0; i <= 10; i++) {
            all.add(x.count(i));
        }
        for (int s = 0; s < 16; s++) {
            for (int what = 0; what < 4; what++) {
                all.add(x.ofSill(s, what));
            }
        }
        for (int h = 0; h < 8; h++) {
            for (int what = 0; what < 6; what++) {
                all.add(x.ofHeir(h, what));
            }
        }
        for (int i = 0; i <= 9; i++) {
            all.add(x.trace(i));
        }
        all.add(x.law(0, 5, 6, 7));
        all.add(x.law(1, 5, 6, 7));
    }

    private static void lookAtSuns(DustSills x, List<Integer> all) {
        for (int s = 0; s < 16; s++) {
            all.add(x.ofSill(s, 0));
        }
    }

    /** SHEETS are seen by the SUN that they give, the longest one by 16 numbers at a time. */
    private static void lookAtSheets(DustSills x, List<Integer> all) {
        for (int i = 0; i < 4; i++) {
            all.add(x.judge(i));
            all.add(x.suns(i));
            lookAtSuns(x, all);
        }
        all.add(x.move(1, 16, 1, 0, 16));
        all.add(x.suns(1));
        lookAtSuns(x, all);
        all.add(x.move(1, 32, 1, 0, 8));
        all.add(x.suns(1));
        lookAtSuns(x, all);
    }

    /** The numbers that wait and THE TAPE. */
    private static void lookAtPapers(DustSills x, List<Integer> all) {
        for (int i = 0; i < 4; i++) {
            all.add(x.light(i));
        }
        all.add(x.check());
        all.add(x.text(1));
        all.add(x.law(1, 5, 6, 7));
        all.add(x.law(1, 8, 8, 8));
    }

    /** No one object is called often enough to see all. */
    private static List<Integer> view(int which, DustSills x) {
        List<Integer> all = new ArrayList<>();
        if (which == 0) {
            look(x, all);
        } else if (which == 1) {
            lookAtSheets(x, all);
            lookAtPapers(x, all);
        } else {
            all.add(x.image());
            all.add(x.restore());
            all.add(x.image());
            look(x, all);
        }
        return all;
    }

    /** The IMAGE that is there is seen by itself, as image() puts another in its place. */
    private static List<Integer> viewOfImage(DustSills x) {
        List<Integer> all = new ArrayList<>();
        all.add(x.restore());
        look(x, all);
        lookAtPapers(x, all);
        return all;
    }

    // ---- comparing

    private static int[] plusOne(int[] told, int error) {
        int[] more = told.clone();
        if (error != 0) {
            more[LOW - error - 1]++;
        }
        return more;
    }

    /** A call that answers an ERROR (or 0, if it answers none that must be) and changes nothing but what told() tells. */
    private static void unchanged(String call, int error, Supplier<DustSills> made, ToIntFunction<DustSills> act) {
        for (int which = 0; which <= VIEWS; which++) {
            DustSills x = made.get();
            int[] told = errors(x);
            int got = act.applyAsInt(x);
            if (error != 0) {
                due(call, got, error);
            }
            if (!Arrays.equals(errors(x), plusOne(told, error))) {
                tellWrong(call + ": told() tells otherwise");
            }
            DustSills still = made.get();
            boolean same = which == VIEWS ? viewOfImage(x).equals(viewOfImage(still)) : view(which, x).equals(view(which, still));
            if (!same) {
                tellWrong(call + ": something changed");
            }
        }
    }

    private static void refused(String call, int error, ToIntFunction<DustSills> act) {
        unchanged(call, error, BoundsTest::busy, act);
    }

    private static void refusedBeside(String argument, int tooSmall, int tooLarge, int error, Act act) {
        for (int v : new int[] {tooSmall, tooLarge, MIN, MAX}) {
            refused(argument + " " + v, error, x -> act.with(x, v));
        }
    }

    /** What is answered at the least and at the greatest; beside them BEYOND. */
    private static void bounds(String argument, int least, int atLeast, int most, int atMost, Act act) {
        due(argument + " " + least, act.with(plain(8), least), atLeast);
        due(argument + " " + most, act.with(plain(8), most), atMost);
        refusedBeside(argument, least - 1, most + 1, BEYOND, act);
    }

    // ---- the arguments

    private static void ofTheTown() {
        says("SUN of a SILL (what 0), TO (1) becomes v: what it was. BEYOND.");
        bounds("sill's SILL", 0, 3, 15, 3, (x, v) -> x.sill(v, 0, 5));
        bounds("sill's what", 0, 3, 1, 2, (x, v) -> x.sill(1, v, 5));
        bounds("sill's SUN", 0, 3, 9, 3, (x, v) -> x.sill(1, 0, v));
        bounds("sill's TO", 0, 2, 15, 2, (x, v) -> x.sill(1, 1, v));
        says("Of a SILL: what 0 SUN, 1 TO, 2 HEIRS that are DUST AT it, 3 HEIRS whose LOT it is, as sets. BEYOND.");
        bounds("ofSill's SILL", 0, 1, 15, 0, (x, v) -> x.ofSill(v, 1));
        bounds("ofSill's what", 0, 3, 3, 1, (x, v) -> x.ofSill(0, v));
        says("CARTS (what 0), SWEEP (1), GLORY (2) become v: what they were. BEYOND.");
        bounds("town's what", 0, 0, 2, 0, (x, v) -> x.town(v, 5));
        bounds("town's CARTS", 0, 0, 9, 0, (x, v) -> x.town(0, v));
        bounds("town's SWEEP", 1, 7, 30, 7, (x, v) -> x.town(1, v));
        bounds("town's GLORY", 0, 0, 99999, 0, (x, v) -> x.town(2, v));
    }

    private static void ofHeirs() {
        says("An HEIR (km: 10 times the KIND, and m) with a LOT, with so many DAYS LEFT: its number. BEYOND. FULL.");
        Act[] heir = {(x, v) -> x.heir(v, 0, 0), (x, v) -> x.heir(0, v, 0), (x, v) -> x.heir(0, 0, v)};
        String[] arguments = {"heir's km", "heir's LOT", "heir's LEFT"};
        int[] most = {69, 15, 99};
        for (int i = 0; i < 3; i++) {
            due(arguments[i] + " 0", heir[i].with(plain(7), 0), 7);
            due(arguments[i] + " " + most[i], heir[i].with(plain(7), most[i]), 7);
            due(arguments[i] + " 0", heir[i].with(plain(8), 0), FULL);
            due(arguments[i] + " " + most[i], heir[i].with(plain(8), most[i]), FULL);
            refusedBeside(arguments[i], -1, most[i] + 1, BEYOND, heir[i]);
        }
        says("8 NEEDS, 9 1 if it is CONTENT, else 0. BEYOND.");
        bounds("ofHeir's HEIR", 0, 0, 7, 9, (x, v) -> x.ofHeir(v, 1));
        bounds("ofHeir's what", 0, 6, 9, 0, (x, v) -> x.ofHeir(7, v));
        says("LOT (what 0), LEFT (1), AT (2), LIT (3) of an HEIR becomes v: what it was. BEYOND.");
        bounds("change's HEIR", 0, 0, 7, 7, (x, v) -> x.change(v, 0, 5));
        bounds("change's what", 0, 3, 3, 0, (x, v) -> x.change(3, v, 5));
        bounds("change's LOT", 0, 3, 15, 3, (x, v) -> x.change(3, 0, v));
        bounds("change's LEFT", 0, 0, 99, 0, (x, v) -> x.change(3, 1, v));
        bounds("change's AT", 0, 3, 15, 3, (x, v) -> x.change(3, 2, v));
        bounds("change's LIT", 0, 0, 9999, 0, (x, v) -> x.change(3, 3, v));
        says("An HEIR becomes one of a KIND, with m (km): the KIND that it was. BEYOND.");
        bounds("become's HEIR", 0, 0, 7, 6, (x, v) -> x.become(v, 20));
        bounds("become's km", 0, 6, 69, 6, (x, v) -> x.become(7, v));
        says("An HEIR as one of a KIND: m. BEYOND.");
        bounds("as's HEIR", 0, 0, 7, 9, (x, v) -> x.as(v, 0));
        bounds("as's KIND", 0, 9, 6, 9, (x, v) -> x.as(7, v));
    }

    private static void ofTextsAndDays() {
        says("The n lowest bytes (1 .. 8) of a word, the lowest first, come to THE TAPE: how many there are. BEYOND. FULL.");
        bounds("feed's n", 1, 2, 8, 9, (x, v) -> x.feed(0x3131313131313131L, v));
        says("THE TAPE, which is empty then, is the TEXT of a USE (0, 1), in place of one ahead: 1. BEYOND (THE TAPE stays).");
        bounds("text's USE", 0, 1, 1, 1, (x, v) -> x.text(v));
        says("What a USE gives with its NAMES in order as a, b, c. BEYOND.");
        bounds("law's USE", 0, 5, 1, 5, (x, v) -> x.law(v, 5, 0, 0));
        says("n (1 to 60) DAYS: GLORY then. BEYOND.");
        bounds("days's n", 1, 21, 60, 1260, (x, v) -> x.days(v));
        says("n (1 to 40) DAYS by draws: likewise. BEYOND.");
        bounds("loose's n", 1, 21, 40, 840, (x, v) -> x.loose(v));
    }

    private static void ofThoughtsOfOne() {
        says("BEHIND n DAYS: AT of one (-1: it is no DUST). BEYOND.");
        bounds("then's n", 0, 3, 60, 3, (x, v) -> x.then(v, 3));
        bounds("then's HEIR", 0, 0, 7, -1, (x, v) -> x.then(0, v));
        says("FIRST: what 0 behind how many DAYS, 1 who. BEYOND. NONE: not by 60.");
        bounds("first's SILL", 0, 0, 15, NONE, (x, v) -> x.first(v, 0));
        bounds("first's what", 0, 0, 1, 4, (x, v) -> x.first(4, v));
        says("MEET. BEYOND: also one and the same. NONE: not by 60.");
        bounds("meet's one", 0, NONE, 7, NONE, (x, v) -> x.meet(v, 3));
        bounds("meet's other", 0, NONE, 7, NONE, (x, v) -> x.meet(3, v));
        says("BRIGHT. BEYOND. NONE: not by 60.");
        bounds("bright's HEIR", 0, 0, 7, 0, (x, v) -> x.bright(v, 0));
        bounds("bright's v", 0, 0, 9999, NONE, (x, v) -> x.bright(0, v));
        says("PLACE: what 0 the SILL, 1 LIT. BEYOND.");
        bounds("place's HEIR", 0, 0, 7, 0, (x, v) -> x.place(v, 0, 0));
        bounds("place's n", 0, 0, 30, 90, (x, v) -> x.place(0, v, 1));
        bounds("place's what", 0, 0, 1, 3, (x, v) -> x.place(0, 1, v));
        says("CARTS for a set. BEYOND. NONE: with none.");
        bounds("cartsFor's set", 0, 9, 255, NONE, (x, v) -> x.cartsFor(v, 0));
        // By 8 CARTS it goes 240 SILLS on, to where it was.
        bounds("cartsFor's n", 0, 9, 30, 8, (x, v) -> x.cartsFor(1, v));
        says("STOP (-1). BEYOND.");
        bounds("stop's HEIR", 0, -1, 7, -1, (x, v) -> x.stop(v, 0));
        bounds("stop's n", 0, -1, 20, -1, (x, v) -> x.stop(0, v));
        says("SWEEP for one. BEYOND.");
        bounds("sweepFor's HEIR", 0, 1, 7, 1, (x, v) -> x.sweepFor(v, 0));
        bounds("sweepFor's n", 0, 1, 60, 1, (x, v) -> x.sweepFor(0, v));
        says("WHENCE, by a SHEET: what 0 how many, 1 the first. BEYOND. NONE: the SHEET is missing; (what 1) there is none.");
        bounds("whence's SHEET", 0, 4, 3, 7, (x, v) -> x.whence(v, 0, 0));
        bounds("whence's HEIR", 0, 7, 7, 7, (x, v) -> x.whence(3, v, 0));
        bounds("whence's what", 0, 7, 1, 0, (x, v) -> x.whence(3, 0, v));
        says("ODDS: part 0 above, 1 below the line. BEYOND.");
        bounds("odds's HEIR", 0, 1, 7, 0, (x, v) -> x.odds(v, 0, 0));
        // By 0, 4 and 8 CARTS it goes round, to its LOT.
        bounds("odds's n", 0, 1, 60, 3, (x, v) -> x.odds(0, v, 0));
        bounds("odds's part", 0, 3, 1, 10, (x, v) -> x.odds(0, 60, v));
    }

    private static void ofThoughtsOfAll() {
        says("SWAP (-1). BEYOND.");
        bounds("swap's n", 0, -1, 20, -1, (x, v) -> x.swap(v));
        says("SUN for a SILL. BEYOND. NONE: with none.");
        bounds("sunFor's SILL", 0, 0, 15, 0, (x, v) -> x.sunFor(v, 0, 0));
        bounds("sunFor's v", 0, 0, 9999, NONE, (x, v) -> x.sunFor(0, v, 30));
        bounds("sunFor's n", 0, 0, 30, 0, (x, v) -> x.sunFor(0, 0, v));
        says("BARE, n 0 to 60. BEYOND.");
        bounds("bare's n", 0, 65535 - 127, 60, 65535 - 127, (x, v) -> x.bare(v));
        says("CROWD, n 0 to 60: what 0 the SILL, 1 how many. BEYOND.");
        bounds("crowd's n", 0, 1, 60, 1, (x, v) -> x.crowd(v, 1));
        bounds("crowd's what", 0, 0, 1, 1, (x, v) -> x.crowd(0, v));
        says("LIGHT. BEYOND.");
        bounds("light's n", 0, 0, 60, 1260, (x, v) -> x.light(v));
        says("LATE. BEYOND. NONE: not by 60.");
        bounds("late's set", 0, 0, 255, NONE, (x, v) -> x.late(v));
    }

    private static void ofVoicesAndTheRest() {
        says("A VOICE of a HEIR: any number. BEYOND.");
        bounds("voice's HEIR", 0, 0, 7, 7, (x, v) -> x.voice(v, 0, 0));
        // Of the GIRL 7 with m 9: 16 less 16 ^ 8 ^ 7.
        bounds("voice's act", 0, 8, 3, -15, (x, v) -> x.voice(7, v, 1));
        says("THE TRACE's i-th. NONE: there is none such.");
        due("trace's i 0", plain(8).trace(0), 13);
        due("trace's i 3", plain(8).trace(3), 12);
        due("trace's i 4", plain(8).trace(4), NONE);
        refusedBeside("trace's i", -1, 9, NONE, (x, v) -> x.trace(v));
        says("10 z (any number). BEYOND.");
        bounds("count's what", 0, 8, 10, 1, (x, v) -> x.count(v));
        says("(k 1 .. 5); BEYOND: another k (counted, too).");
        bounds("told's k", 1, 0, 5, 0, (x, v) -> x.told(v));
    }

    private static void ofSheets() {
        says("1. BEYOND. STATE: n is below 0 (ahead of BEYOND of n).");
        bounds("sheet's SHEET", 0, 1, 3, 1, (x, v) -> x.sheet(v, 8, 1));
        for (int bits : new int[] {-1, 1, 7, 9, 15, 17, 31, 33, MIN, MAX}) {
            refused("sheet's bits " + bits, BEYOND, x -> x.sheet(0, bits, 1));
        }
        due("sheet's n 0", plain(8).sheet(0, 8, 0), 1);
        due("sheet's n 40", plain(8).sheet(0, 8, 40), 1);
        refused("sheet's n -1", STATE, x -> x.sheet(0, 8, -1));
        refused("sheet's n MIN", STATE, x -> x.sheet(1, 32, MIN));
        refused("sheet's n 41", BEYOND, x -> x.sheet(0, 8, 41));
        refused("sheet's n MAX", BEYOND, x -> x.sheet(1, 32, MAX));
        says("Number i of a SHEET becomes v (its lowest bits): 1. BEYOND: no such SHEET. NONE: it is missing. BEYOND: no "
            + "such number.");
        bounds("put's SHEET", 0, 1, 3, 1, (x, v) -> x.put(v, 0, 1));
        bounds("put's i", 0, 1, 4, 1, (x, v) -> x.put(0, v, 1));
        says("n. BEYOND: no such SHEET. NONE: one is missing. KIND: they are of unlike bits. BEYOND: n, i, or j is below 0, "
            + "or they don't stand there.");
        bounds("move's SHEET", 0, 1, 3, 1, (x, v) -> x.move(v, 0, 0, 0, 1));
        bounds("move's other", 0, 1, 3, 1, (x, v) -> x.move(0, 0, v, 0, 1));
        bounds("move's i", 0, 1, 4, 1, (x, v) -> x.move(0, v, 0, 0, 1));
        bounds("move's j", 0, 1, 4, 1, (x, v) -> x.move(0, 0, 0, v, 1));
        bounds("move's n", 0, 0, 5, 5, (x, v) -> x.move(0, 0, 0, 0, v));
        refused("move of 40 numbers, and one more", BEYOND, x -> x.move(1, 0, 1, 0, 41));
        refused("move that goes round", BEYOND, x -> x.move(1, MAX, 1, 0, MAX));
        refused("move that goes round", BEYOND, x -> x.move(1, 0, 1, MAX, MAX));
        says("or for which there is no SILL. BEYOND: no such SHEET. NONE: it is missing.");
        bounds("suns's SHEET", 0, 5, 3, 1, (x, v) -> x.suns(v));
        says("-1: all are. BEYOND: no such SHEET. NONE: it is missing.");
        bounds("judge's SHEET", 0, 1, 3, 1, (x, v) -> x.judge(v));
    }

    // ---- which ERROR comes first

    private static void orders() {
        says("Each act tells its ERRORS in the order in which they are asked; one that answers an ERROR changes nothing but what told() "
            + "tells.");
        refused("heir: FULL alone", FULL, x -> x.heir(69, 15, 99));
        refused("heir: BEYOND of km ahead of FULL", BEYOND, x -> x.heir(70, 0, 0));
        refused("heir: BEYOND of LOT ahead of FULL", BEYOND, x -> x.heir(0, 16, 0));
        refused("heir: BEYOND of LEFT ahead of FULL", BEYOND, x -> x.heir(0, 0, 100));
        refused("change: STATE alone", STATE, x -> x.change(7, 2, 15));
        refused("change: BEYOND of v ahead of STATE", BEYOND, x -> x.change(7, 2, 16));
        refused("change: BEYOND of v ahead of STATE", BEYOND, x -> x.change(7, 2, -1));
        refused("as: KIND alone", KIND, x -> x.as(0, 6));
        refused("as: BEYOND of the KIND ahead of KIND", BEYOND, x -> x.as(0, 7));
        refused("as: BEYOND of the HEIR ahead of KIND", BEYOND, x -> x.as(8, 1));
        refused("feed: FULL alone", FULL, x -> x.feed('1', 2));
        refused("feed: FULL alone", FULL, x -> x.feed('1', 8));
        refused("feed: BEYOND ahead of FULL", BEYOND, x -> x.feed('1', 9));
        refused("first: BEYOND of what ahead of NONE", BEYOND, x -> x.first(8, 2));
        refused("meet: NONE alone", NONE, x -> x.meet(0, 7));
        refused("meet: BEYOND of one and the same ahead of NONE", BEYOND, x -> x.meet(7, 7));
        refused("meet: BEYOND of the other ahead of NONE", BEYOND, x -> x.meet(7, 8));
        refused("bright: NONE alone", NONE, x -> x.bright(7, 1));
        refused("bright: BEYOND of v ahead of NONE", BEYOND, x -> x.bright(7, 10000));
        refused("cartsFor: NONE alone", NONE, x -> x.cartsFor(128, 30));
        refused("cartsFor: BEYOND of n ahead of NONE", BEYOND, x -> x.cartsFor(128, 31));
        refused("cartsFor: BEYOND of the set ahead of NONE", BEYOND, x -> x.cartsFor(256 + 128, 30));
        refused("sunFor: NONE alone", NONE, x -> x.sunFor(0, 9999, 1));
        refused("sunFor: BEYOND of the SILL ahead of NONE", BEYOND, x -> x.sunFor(16, 9999, 1));
        refused("sunFor: BEYOND of n ahead of NONE", BEYOND, x -> x.sunFor(0, 9999, 31));
        refused("whence: NONE of a missing SHEET", NONE, x -> x.whence(3, 0, 0));
        refused("whence: NONE of a missing SHEET, what 1", NONE, x -> x.whence(3, 0, 1));
        refused("whence: BEYOND of the HEIR ahead of NONE", BEYOND, x -> x.whence(3, 8, 0));
        refused("whence: BEYOND of what ahead of NONE", BEYOND, x -> x.whence(3, 0, 2));
        refused("whence: NONE of what 1", NONE, x -> x.whence(1, 0, 1));
        refused("late: NONE alone", NONE, x -> x.late(128));
        refused("late: BEYOND ahead of NONE", BEYOND, x -> x.late(256 + 128));
        ordersOfSheets();
    }

    private static void ordersOfSheets() {
        refused("sheet: BEYOND of the SHEET ahead of STATE", BEYOND, x -> x.sheet(4, 8, -1));
        refused("sheet: BEYOND of bits ahead of STATE", BEYOND, x -> x.sheet(0, 9, -1));
        refused("sheet: STATE ahead of BEYOND of n", STATE, x -> x.sheet(0, 16, -1));
        refused("put: BEYOND of the SHEET first", BEYOND, x -> x.put(4, 99, 1));
        refused("put: NONE ahead of BEYOND of the number", NONE, x -> x.put(3, 99, 1));
        refused("put: BEYOND of the number", BEYOND, x -> x.put(0, 3, 1));
        refused("put: BEYOND of the number, none being there", BEYOND, x -> x.put(2, 0, 1));
        refused("move: BEYOND of the SHEET ahead of NONE", BEYOND, x -> x.move(4, 0, 3, 0, 1));
        refused("move: BEYOND of the other ahead of NONE", BEYOND, x -> x.move(3, 0, 4, 0, 1));
        refused("move: NONE of the SHEET", NONE, x -> x.move(3, 0, 0, 0, 1));
        refused("move: NONE of the other", NONE, x -> x.move(0, 0, 3, 0, 1));
        refused("move: NONE ahead of BEYOND of n", NONE, x -> x.move(0, 0, 3, 0, -1));
        refused("move: NONE of both", NONE, x -> x.move(3, 0, 3, 0, -1));
        refused("move: KIND alone", KIND, x -> x.move(0, 0, 1, 0, 1));
        refused("move: KIND of none", KIND, x -> x.move(1, 0, 2, 0, 0));
        refused("move: KIND ahead of BEYOND of n", KIND, x -> x.move(0, 0, 1, 0, -1));
        refused("move: KIND ahead of BEYOND of i", KIND, x -> x.move(0, 99, 1, 0, 1));
        refused("move: BEYOND, though some stand there", BEYOND, x -> x.move(0, 0, 0, 1, 3));
        refused("move: BEYOND of the other, none being there", BEYOND, x -> x.move(0, 0, 2, 0, 1));
        refused("suns: NONE", NONE, x -> x.suns(3));
        refused("judge: NONE", NONE, x -> x.judge(3));
        refused("tell: FULL", FULL, x -> x.tell(1));
        refused("voice: BEYOND of the act", BEYOND, x -> x.voice(0, 4, 0));
        unchanged("restore: NONE", NONE, () -> plain(8), x -> x.restore());
        unchanged("first: NONE", NONE, () -> plain(8), x -> x.first(15, 0));
        unchanged("first: NONE, what 1", NONE, () -> plain(8), x -> x.first(15, 1));
        unchanged("days: STATE", STATE, BoundsTest::old, x -> x.days(1));
        unchanged("days: STATE", STATE, BoundsTest::old, x -> x.days(60));
        unchanged("days: BEYOND ahead of STATE", BEYOND, BoundsTest::old, x -> x.days(61));
        unchanged("days: BEYOND, too small", BEYOND, BoundsTest::old, x -> x.days(0));
        unchanged("loose: STATE", STATE, BoundsTest::old, x -> x.loose(1));
        unchanged("loose: STATE", STATE, BoundsTest::old, x -> x.loose(40));
        unchanged("loose: BEYOND ahead of STATE", BEYOND, BoundsTest::old, x -> x.loose(41));
    }

    // ---- what changes nothing, though it answers no ERROR

    private static void asked(String call, ToIntFunction<DustSills> act) {
        unchanged(call, 0, BoundsTest::busy, act);
    }

    private static void thoughts() {
        says("(All this is only thought, DAY beyond 9999, too.)");
        asked("then", x -> x.then(60, 0));
        asked("first", x -> x.first(3, 1));
        asked("meet", x -> x.meet(1, 6));
        asked("bright", x -> x.bright(0, 50));
        asked("place", x -> x.place(0, 30, 1) + x.place(7, 30, 0));
        asked("cartsFor", x -> x.cartsFor(4, 30) + x.cartsFor(0, 30));
        asked("stop", x -> x.stop(0, 20));
        asked("swap", x -> x.swap(20));
        asked("sunFor", x -> x.sunFor(0, 1, 30));
        asked("sweepFor", x -> x.sweepFor(0, 60));
        asked("whence", x -> x.whence(1, 0, 0) + x.whence(2, 7, 1));
        asked("bare", x -> x.bare(60));
        asked("crowd", x -> x.crowd(60, 0));
        asked("light", x -> x.light(60));
        asked("late", x -> x.late(127));
        asked("odds", x -> x.odds(0, 60, 0) + x.odds(7, 60, 1));
        asked("what is", x -> x.ofSill(0, 2) + x.ofHeir(0, 9) + x.as(0, 0) + x.law(0, 1, 2, 3) + x.trace(8) + x.count(4) + x.told(5)
            + x.judge(0));
        unchanged("then from DAY 9999", 0, BoundsTest::old, x -> x.then(60, 0));
        unchanged("light from DAY 9999", 0, BoundsTest::old, x -> x.light(60));
    }

    private static void anyNumbers() {
        says("What a USE gives with its NAMES in order as a, b, c. BEYOND.");
        DustSills x = plain(8);
        for (int v : new int[] {MIN, MAX, LOW - 1, 0}) {
            due("law's a", x.law(0, v, 0, 0), v == MAX ? 9 : 0);
            due("law's b", x.law(0, 5, v, 0), 5);
            due("law's c", x.law(0, 5, 0, v), 5);
        }
        says("z becomes v: what it was (any number).");
        due("seed's v", x.seed(MIN), 1);
        due("seed's v", x.seed(MAX), MIN);
        due("seed's v", x.seed(0), MAX);
        says("A VOICE of a HEIR: any number. BEYOND.");
        due("voice's x", x.voice(0, 0, MIN), MIN);
        due("voice's x", x.voice(0, 0, MAX), MAX);
        due("voice's x", x.voice(1, 0, MAX), MIN);
        says("Number i of a SHEET becomes v (its lowest bits): 1. BEYOND: no such SHEET. NONE: it is missing. BEYOND: no "
            + "such number.");
        due("put's v", x.put(0, 0, MIN), 1);
        due("put's v", x.put(0, 0, MAX), 1);
        says("One more number waits: how many.");
        due("tell's v", x.tell(MIN), 1);
        due("tell's v", x.tell(MAX), 2);
        says("The n lowest bytes (1 .. 8) of a word, the lowest first, come to THE TAPE: how many there are. BEYOND. FULL.");
        due("feed's word", x.feed(Long.MIN_VALUE, 8), 9);
        due("feed's word", x.feed(Long.MAX_VALUE, 8), 17);
        row("told", errors(x), 0, 0, 0, 0, 0);
    }

    public static void main(String[] args) {
        ofTheTown();
        ofHeirs();
        ofTextsAndDays();
        ofThoughtsOfOne();
        ofThoughtsOfAll();
        ofVoicesAndTheRest();
        ofSheets();
        orders();
        thoughts();
        anyNumbers();
        end("each argument is taken within its bounds, and an ERROR changes nothing");
    }
}
