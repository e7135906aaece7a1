/** Promises 27 to 37: the soonest end, what was seen, ropes anew, the lazy and the stranger, arms, warm and cold. */
public final class SoughtTest {
    private static final Check CHECK = new Check("SoughtTest");

    public static void main(String[] args) {
        soonest();
        seenAndSure();
        ropes();
        lazy();
        strangers();
        swapped();
        when();
        warmAndCold();
        noSmiths();
        CHECK.end();
    }

    private static void soonest(String street, int due) {
        CHECK.due("27 soonest of " + street, Check.streetOf(street).soonest(), due);
    }

    private static void soonest() {
        soonest("smith 10 heat 50 piece 3;blows 0 0;", 3);
        soonest("smith 10 heat 50 piece 0;blows 0 0;", 0);
        // at 20 a stroke, 15; a pull, 20; a stroke
        soonest("smith 10 heat 20 piece 1;blows 0 0;", 1);
        soonest("smith 10 heat 19 piece 1;blows 0 0;", 2);
        soonest("smith 10 heat 20 piece 2;blows 0 0;", 3);
        soonest("smith 5 heat 19 piece 1;blows 0 0;", -1);
        soonest("smith 10 cool 0 heat 101 piece 1;blows 0 0;", -1);
        soonest("smith 10 heat 101 piece 1;blows 0 0;", 2);
        // 0 blows the cold fire of 1 twice and strikes twice, 1 once at 20
        soonest("smith 10 heat 50 piece 2;smith 10 heat 10 piece 1;", 3 + 1);
        soonest("smith 1;smith 1;smith 1;smith 1;", -4);
        soonest("smith 1 piece 0;smith 1 piece 0;smith 1 piece 0;smith 1 piece 0;", -4);
        soonest("smith 7 piece 20;smith 11 cool 3 piece 20;smith 13 cool 2 piece 20;", -4);
        // smith 1 is never done and never otherwise; fire and piece of smith 0 have 3,000 states, or one more
        String never = "smith 0 cool 0 piece 1;blows 0 0;blows 1 1;";
        soonest("smith 34 cool 7 heat 33 low 184 high 197 piece 14;burnt 5;" + never, -1);
        soonest("smith 59 cool 6 heat 162 low 57 high 115 piece 18;burnt 7;" + never, -1);
        soonest("smith 46 cool 5 heat 140 low 108 high 198 piece 14;burnt 7;" + never, -4);
        soonest("smith 57 cool 25 heat 13 low 155 high 168 piece 16;burnt 13;" + never, -4);
        BlownNext x = Check.streetOf("smith 10 heat 50 piece 3;blows 0 0;");
        CHECK.due("27 soonest", x.soonest(), 3);
        x.minute(0, 1);
        CHECK.due("27 strokes that it has", x.soonest(), 2);
        CHECK.due("27 asked again", x.soonest(), 2);
        CHECK.due("27 nothing is done", x.count(1), 1);
        // from 0 the fire comes to 4 again by 7 2 9 4 alone, where strokes are lost
        soonest("smith 12 heat 4 low 4 high 4 piece 2;blows 0 0;", -1);
        soonest("smith 12 heat 4 low 4 high 4 piece 2;blows 0 0;burnt 1;", -1);
        soonest("smith 12 heat 4 low 4 high 4 piece 2;blows 0 0;burnt 0;", 6);
    }

    private static void seenAndSure() {
        BlownNext x = Check.streetOf("smith 10;smith 10;smith 5;blows 0 0;blows 1 0;blows 2 1;");
        long[][] rows = {{5, 0, 0}, {15, 0, 0}, {0, 0, 0}, {5, 1, 0}};
        int[] seen = {4, 2, 2, 0};
        int[] pull = {0, 3, 0, 0};
        int[] rest = {0, 0, 3, 0};
        for (int k = 0; k < 4; k++) {
            Check.row(x, k, k, rows[k]);
            CHECK.due("28 seen(" + k + ")", x.seen(k), seen[k]);
            CHECK.due("29 sure(" + k + ", true)", x.sure(k, true), pull[k]);
            CHECK.due("29 sure(" + k + ", false)", x.sure(k, false), rest[k]);
        }
        Check.row(x, 1, 3, 5L + (1L << 32), 0, 0);
        CHECK.due("28 more than an int", x.seen(1), 0);
        Check.row(x, 1, 3, 5, 0);
        Check.row(x, 2, 3, 5, 0, 0, 0);
        CHECK.due("28 row 4", x.seen(4), -2);
        CHECK.due("28 row -1", x.seen(-1), -2);
        CHECK.due("28 too few", x.seen(1), -7);
        CHECK.due("28 too many", x.seen(2), -7);
        CHECK.due("29 row 4", x.sure(4, true), -2);
        CHECK.due("29 row -1", x.sure(-1, false), -2);
        CHECK.due("29 too few", x.sure(1, true), -7);
        CHECK.due("29 too many", x.sure(2, false), -7);
        x = Check.streetOf("smith 60 heat 190;smith 60 heat 190;smith 3;blows 0 0;blows 1 0;blows 2 2;");
        CHECK.due("28 missing", x.seen(0), -6);
        CHECK.due("29 missing", x.sure(0, true), -6);
        Check.row(x, 0, 1, 200, 185, 0);
        // at 200 by either or both, at 0 whether or not smith 2 pulls
        CHECK.due("28 at the bounds", x.seen(0), 6);
        CHECK.due("29 at the bounds", x.sure(0, true), 0);
        Check.row(x, 0, 0, 200, 185, 0);
        CHECK.due("28 8 bits don't hold 200", x.seen(0), 0);
    }

    private static void ropes() {
        BlownNext x = Check.streetOf("smith 1 cool 3;smith 2 cool 1;smith 3 cool 2;");
        roped(x, 0, 1, 2, 0);
        x = Check.streetOf("smith 1 cool 2;smith 2 cool 3;smith 3 cool 1;");
        roped(x, 0, 2, 0, 1);
        x = Check.streetOf("smith 4 cool 5;smith 5 cool 5;smith 7 cool 5;smith 5;");
        roped(x, 3, 1, 2, 3, 0);
        x.rope(0, 0);
        CHECK.due("30 whatever the ropes now", x.ropes(10), 1);
        CHECK.due("30 which stay", x.smith(0, 8), 0);
        roped(Check.streetOf("smith 40 cool 30;"), 10, 0);
        // each would best blow his own fire: not in one RING
        roped(Check.streetOf("smith 1 cool 1;smith 9 cool 9;"), 16, 1, 0);
        // 0 and 1 fit each other, 2 and 3 too: but that were two RINGS
        x = Check.streetOf("smith 1 cool 20;smith 20 cool 1;smith 9 cool 30;smith 30 cool 9;");
        roped(x, 16, 3, 0, 1, 2);
        x = Check.streetOf("smith 1;smith 1;smith 1;smith 1;smith 1;smith 1;smith 1;");
        roped(x, 28, 1, 2, 3, 4, 5, 6, 0);
        CHECK.due("30 what 17", x.ropes(17), -2);
        CHECK.due("30 what 1", x.ropes(1), -2);
        CHECK.due("30 what -1", x.ropes(-1), -2);
        x = Check.streetOf("smith 1;smith 1;smith 1;smith 1;smith 1;smith 1;smith 1;smith 1;");
        CHECK.due("30 eight", x.ropes(0), -4);
        CHECK.due("30 eight, what 17", x.ropes(17), -4);
        CHECK.due("30 eight, what 18", x.ropes(18), -2);
    }

    private static void roped(BlownNext x, int sum, int... to) {
        CHECK.due("30 ropes(0)", x.ropes(0), sum);
        for (int i = 0; i < to.length; i++) {
            CHECK.due("30 ropes(" + (10 + i) + ") of " + to.length, x.ropes(10 + i), to[i]);
        }
    }

    private static void lazy() {
        BlownNext x = Check.streetOf("smith 20 heat 50 piece 1;smith 20 piece 1;smith 20 piece 1;blows 2 2;");
        // fire 1 by 0, fire 2 by 1 and 2 (25 less 5, both 35); nobody blows 0, who has done with his in minute 1
        CHECK.due("13 all done", x.custom(5), 3);
        CHECK.due("31 lazy(0, 5): his own and that of 1", x.lazy(0, 5), 2);
        CHECK.due("31 lazy(1, 5): his own", x.lazy(1, 5), 1);
        CHECK.due("31 lazy(2, 5): his own", x.lazy(2, 5), 1);
        CHECK.due("31 lazy(0, 1)", x.lazy(0, 1), 1);
        CHECK.due("31 lazy(1, 1)", x.lazy(1, 1), 0);
        // a lazy one may bring more: both together bring a fire that does not cool above HIGH
        x = Check.streetOf("smith 0 cool 0 high 70 piece 2;smith 20 piece 0;smith 60 piece 0;blows 1 0;blows 2 0;");
        CHECK.due("31 lazy(2, 9)", x.lazy(2, 9), -1);
        CHECK.due("31 lazy(0, 9)", x.lazy(0, 9), 0);
        CHECK.due("31 lazy(3, 0)", x.lazy(3, 0), -2);
        CHECK.due("31 lazy(-1, 5)", x.lazy(-1, 5), -2);
        CHECK.due("31 lazy(0, 0)", x.lazy(0, 0), -3);
        CHECK.due("31 lazy(0, 201)", x.lazy(0, 201), -3);
        CHECK.due("31 nothing is done", x.count(1), 0);
    }

    private static void strangers() {
        BlownNext x = Check.streetOf("smith 5 heat 50 piece 1;smith 5 piece 1;smith 5 piece 1;");
        // fire 0 is blown by 2, fire 1 by 0, fire 2 by 1; 5 comes and 5 goes: nobody gets warm
        CHECK.due("13 one done", x.custom(5), 1);
        CHECK.due("32 stranger(0, 20, 5)", x.stranger(0, 20, 5), 1);
        CHECK.due("32 stranger(1, 20, 5)", x.stranger(1, 20, 5), 1);
        CHECK.due("32 stranger(2, 20, 5)", x.stranger(2, 20, 5), 0);
        CHECK.due("32 stranger(1, 0, 5)", x.stranger(1, 0, 5), 0);
        CHECK.due("33 bestPlace(20, 5)", x.bestPlace(20, 5), 0);
        CHECK.due("33 bestPlace(0, 5)", x.bestPlace(0, 5), 0);
        x.rope(0, 0);
        CHECK.due("33 bestPlace(20, 5)", x.bestPlace(20, 5), 1);
        CHECK.due("32 stranger(3, 61, 5)", x.stranger(3, 61, 5), -2);
        CHECK.due("32 stranger(-1, 20, 5)", x.stranger(-1, 20, 5), -2);
        CHECK.due("32 stranger(0, 61, 5)", x.stranger(0, 61, 5), -3);
        CHECK.due("32 stranger(0, -1, 5)", x.stranger(0, -1, 5), -3);
        CHECK.due("32 stranger(0, 20, 0)", x.stranger(0, 20, 0), -3);
        CHECK.due("32 stranger(0, 20, 201)", x.stranger(0, 20, 201), -3);
        CHECK.due("33 bestPlace(61, 5)", x.bestPlace(61, 5), -3);
        CHECK.due("33 bestPlace(-1, 5)", x.bestPlace(-1, 5), -3);
        CHECK.due("33 bestPlace(20, 0)", x.bestPlace(20, 0), -3);
        CHECK.due("33 bestPlace(20, 201)", x.bestPlace(20, 201), -3);
        CHECK.due("32 nothing is done", x.count(1), 0);
        // he does not pull above HIGH: 60 on 41 were 101
        x = Check.streetOf("smith 0 cool 0 heat 41 low 90 piece 1;blows 0 0;");
        CHECK.due("32 he rests", x.stranger(0, 60, 9), 0);
        CHECK.due("32 he pulls", x.stranger(0, 59, 9), 1);
        // what he brings may be less than nothing: the fire jumps over what can be struck
        x = Check.streetOf("smith 20 cool 0 heat 0 low 20 high 70 piece 2;blows 0 0;");
        CHECK.due("32 burnt", x.stranger(0, 60, 9), -1);
    }

    private static void swapped() {
        // 0 blows 1, 1 blows 2, 2 blows 0; fire 1 alone lacks a stronger arm
        BlownNext x = Check.streetOf("smith 5 heat 50 piece 1;smith 25 heat 50 piece 1;smith 5 heat 50 piece 1;");
        CHECK.due("34 nothing to win", x.swapped(9, 0), 0);
        CHECK.due("34 no pair", x.swapped(9, 1), -1);
        x = Check.streetOf("smith 5 heat 50 piece 1;smith 25 piece 1;smith 5 heat 50 piece 1;");
        CHECK.due("34 one more", x.swapped(9, 0), 1);
        CHECK.due("34 by 0 and 1", x.swapped(9, 1), 1);
        x = Check.streetOf("smith 25 heat 50 piece 1;smith 5 heat 50 piece 1;smith 5 piece 1;");
        CHECK.due("34 fire 2 lacks it", x.swapped(9, 0), 1);
        CHECK.due("34 by 0 and 1", x.swapped(9, 1), 1);
        x = Check.streetOf("smith 5 heat 50 piece 1;smith 5 heat 50 piece 1;smith 25 heat 50 piece 1;smith 5 piece 1;");
        CHECK.due("34 four: done without", x.swapped(9, 0), 0);
        x = Check.streetOf("smith 5 heat 50 piece 1;smith 25 heat 50 piece 1;smith 5 heat 50 piece 1;smith 5 piece 1;");
        CHECK.due("34 by 1 and 2", x.swapped(9, 1), 12);
        CHECK.due("34 what 2", x.swapped(0, 2), -2);
        CHECK.due("34 what -1", x.swapped(9, -1), -2);
        CHECK.due("34 n 0", x.swapped(0, 0), -3);
        CHECK.due("34 n 201", x.swapped(201, 1), -3);
        CHECK.due("34 nothing is done", x.count(1) + x.smith(1, 0), 25);
    }

    private static void when() {
        BlownNext x = Check.streetOf("smith 6 heat 50 piece 1;smith 5 piece 1;smith 5 heat 50 piece 0;");
        CHECK.due("35 when(0)", x.when(0), 1);
        // from the second minute on fire 1 rises by 1
        CHECK.due("35 when(1)", x.when(1), 1 + 20 + 1);
        CHECK.due("35 when(2)", x.when(2), 0);
        CHECK.due("35 when(3)", x.when(3), -2);
        CHECK.due("35 when(-1)", x.when(-1), -2);
        x.arm(0, 5);
        CHECK.due("35 never", x.when(1), -1);
        // fire 0 falls by 1 from 200 on and is workable behind 180 MINUTES; then 20 strokes
        x = Check.streetOf("smith 0 cool 1 heat 200 low 0 high 20 piece 20;blows 0 0;");
        CHECK.due("35 late", x.when(0), 200);
        x = Check.streetOf("smith 0 cool 1 heat 200 low 0 high 0 piece 20;blows 0 0;");
        CHECK.due("35 later", x.when(0), 220);
        // up by 1 from 0 to LOW, a stroke (5 lost), five more minutes, and so on
        x = Check.streetOf("smith 6 low 191 high 200 piece 19;blows 0 0;");
        CHECK.due("35 within 300", x.when(0), 192 + 18 * 6);
        x = Check.streetOf("smith 6 low 192 high 200 piece 19;blows 0 0;");
        CHECK.due("35 not within 300", x.when(0), -1);
        x = Check.streetOf("smith 1 cool 0 heat 99 low 199 high 200 piece 20;blows 0 0;");
        CHECK.due("35 up by 1", x.when(0), 120);
        x = Check.streetOf("smith 1 cool 0 heat 0 low 200 high 200 piece 1;blows 0 0;");
        CHECK.due("35 201", x.when(0), 201);
        CHECK.due("35 nothing is done", x.count(1), 0);
    }

    private static void warmAndCold() {
        BlownNext x = Check.streetOf("smith 10 heat 30;smith 4 heat 19 low 20;smith 3 cool 0 heat 60;smith 1 heat 9 low 0;"
            + "blows 0 0;blows 1 0;blows 2 2;blows 3 1;");
        // fire 0: 14 less 5; fire 1: 1 less 5; fire 2: 3; fire 3: none
        CHECK.due("36 it is", x.warm(0, 30), 0);
        CHECK.due("36 warm(0, 31)", x.warm(0, 31), 1);
        CHECK.due("36 warm(0, 39)", x.warm(0, 39), 1);
        CHECK.due("36 warm(0, 40)", x.warm(0, 40), 2);
        CHECK.due("36 warm(0, 200)", x.warm(0, 200), 19);
        CHECK.due("36 never", x.warm(1, 20), -1);
        CHECK.due("36 it was", x.warm(1, 0), 0);
        CHECK.due("36 warm(2, 200)", x.warm(2, 200), 47);
        CHECK.due("36 nobody blows", x.warm(3, 10), -1);
        CHECK.due("36 warm(4, 300)", x.warm(4, 300), -2);
        CHECK.due("36 warm(-1, 1)", x.warm(-1, 1), -2);
        CHECK.due("36 warm(0, 201)", x.warm(0, 201), -3);
        CHECK.due("36 warm(0, -1)", x.warm(0, -1), -3);
        CHECK.due("37 30 25 20 15", x.cold(0), 3);
        CHECK.due("37 it is", x.cold(1), 0);
        CHECK.due("37 it doesn't cool", x.cold(2), -1);
        CHECK.due("37 LOW is 0", x.cold(3), -1);
        CHECK.due("37 cold(4)", x.cold(4), -2);
        CHECK.due("37 cold(-1)", x.cold(-1), -2);
        x = Check.streetOf("smith 5 heat 30;blows 0 0;smith 0 cool 3 heat 200 low 1;blows 1 1;");
        CHECK.due("36 as much goes as comes", x.warm(0, 31), -1);
        CHECK.due("37 from 200 below 1", x.cold(1), 67);
    }

    private static void noSmiths() {
        BlownNext x = new BlownNext();
        Check.row(x, 0, 0);
        Check.row(x, 1, 0, 5);
        CHECK.due("27 no smiths", x.soonest(), 0);
        CHECK.due("28 no smiths", x.seen(0), 1);
        CHECK.due("28 no smiths, a number", x.seen(1), -7);
        CHECK.due("29 no smiths", x.sure(0, true), 0);
        CHECK.due("29 no smiths", x.sure(0, false), 0);
        CHECK.due("30 no smiths", x.ropes(0), -5);
        CHECK.due("30 no smiths, what 10", x.ropes(10), -2);
        CHECK.due("31 no smiths", x.lazy(0, 1), -2);
        CHECK.due("32 no smiths", x.stranger(0, 1, 1), -2);
        int[] some = {Integer.MIN_VALUE, -1, 0, 1, 60, 61, 200, 201, Integer.MAX_VALUE};
        for (int blast : some) {
            for (int n : some) {
                CHECK.due("33 no smiths, (" + blast + ", " + n + ")", x.bestPlace(blast, n), -1);
            }
        }
        CHECK.due("34 no smiths", x.swapped(1, 0), 0);
        CHECK.due("34 no smiths", x.swapped(1, 1), -1);
        CHECK.due("35 no smiths", x.when(0), -2);
        CHECK.due("36 no smiths", x.warm(0, 0), -2);
        CHECK.due("37 no smiths", x.cold(0), -2);
    }
}
